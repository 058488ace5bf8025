import java.io.IOException;
import java.lang.reflect.Constructor;
import java.lang.reflect.Field;
import java.lang.reflect.Method;
import java.lang.reflect.Modifier;
import java.nio.file.Files;
import java.nio.file.Path;
import java.util.ArrayList;
import java.util.List;
import java.util.Set;
import java.util.TreeSet;
import java.util.regex.Matcher;
import java.util.regex.Pattern;

/** The rules of ../shared/LANGUAGE.md that can be looked at by a machine; a row a broken one, with the rule's number. */
public final class LanguageTests {
    private static final Path SOURCE = Path.of("src/main/java/SunMirrors.java");
    private static final Set<String> FACE = new TreeSet<>(List.of("SunMirrors()", "int mirror(int,int,int)", "int patch(int,int,int)",
        "int wall(int,int,int)", "int of(int,int)", "int is(int,int)", "int feed(long,int)", "int valley()", "int free(int,int)",
        "int can(int,int,int)", "int plan(int,int,int)", "int judged()", "int has(int,int)", "int worth(int)", "int best(int,int)",
        "int fair(int)", "int take(int,int)", "int coarse(int)", "long kept(int,int,int)", "int gone(int)", "int day()",
        "int passed(int,int,int)", "int vote(int)", "int clear()", "int holds(int)", "int act(int,int,int)", "int trace(int)",
        "int as(int,int)", "int image()", "int undo()", "int count(int)", "int NONE", "int BAD", "int STATE", "int FULL", "long NO"));
    private static final Set<String> LIBRARY = Set.of("Math.max", "Math.min", "Math.abs", "Integer.bitCount", "System.arraycopy",
        "Arrays.fill", "Arrays.copyOf", "Arrays.copyOfRange", "Long.MIN_VALUE");

    private static int wrong = 0;

    public static void main(String[] args) throws IOException {
        String source = Files.readString(SOURCE);
        String code = withoutCommentsAndTexts(source);
        words(source, code);
        library(code);
        methods(code);
        List<Class<?>> classes = new ArrayList<>(List.of(SunMirrors.class.getDeclaredClasses()));
        must(classes.size() <= 12, "11: the file has " + classes.size() + " classes inside");
        for (Class<?> inside : classes) {
            must(Modifier.isStatic(inside.getModifiers()) && !Modifier.isPublic(inside.getModifiers()), "1: " + inside);
        }
        face();
        classes.add(SunMirrors.class);
        for (Class<?> one : classes) {
            members(one);
        }
        System.out.println(wrong == 0 ? "the rules that are looked at are kept" : wrong + " broken rules");
        if (wrong != 0) System.exit(1);
    }

    private static void must(boolean is, String otherwise) {
        if (is) return;
        wrong++;
        System.out.println("rule " + otherwise);
    }

    private static String withoutCommentsAndTexts(String source) {
        Pattern apart = Pattern.compile("/\\*.*?\\*/|//[^\n]*|\"(\\\\.|[^\"\\\\])*\"|'(\\\\.|[^'\\\\])'", Pattern.DOTALL);
        return apart.matcher(source).replaceAll(found -> "\n".repeat((int) found.group().chars().filter(c -> c == '\n').count()) + "0");
    }

    private static void words(String source, String code) {
        must(source.chars().allMatch(c -> c == '\n' || c >= 32 && c < 127), "4: a sign outside of 1 to 127");
        must(!source.contains("\npackage "), "1: a package line");
        for (String word : List.of("throw", "throws", "try", "catch", "finally", "synchronized", "assert", "default ->", "new Thread",
            "hashCode", "toString", "equals", "float", "double", "Object", "Override", "transient", "volatile", "native", "goto",
            "protected", "StringBuffer", "Exception", "Error")) {
            must(!Pattern.compile("\\b" + word + "\\b").matcher(code).find(), "6 or 3: " + word);
        }
        for (String sign : List.of("->", "::", "@", "static {", "...", "Exact")) {
            must(!code.contains(sign), "2, 5 or 4: " + sign);
        }
        Matcher imports = Pattern.compile("^import (.*);$", Pattern.MULTILINE).matcher(code);
        while (imports.find()) {
            must(Set.of("java.util.Arrays", "java.util.ArrayList", "java.util.List").contains(imports.group(1)), "4: " + imports.group());
        }
    }

    private static void library(String code) {
        Matcher calls = Pattern.compile("\\b(Math|Integer|Long|System|Arrays|String|Character|List)\\.\\w+").matcher(code);
        while (calls.find()) {
            must(LIBRARY.contains(calls.group()), "4: " + calls.group());
        }
    }

    /** A method's lines, by the braces of this file's layout. */
    private static void methods(String code) {
        String head = "";
        int from = 0;
        int line = 0;
        for (String text : code.split("\n", -1)) {
            line++;
            if (text.matches(" {4}( {4})?[a-zA-Z].*\\) \\{")) {
                head = text.trim();
                from = line;
            }
            if (text.matches(" {4}( {4})?}")) must(head.isEmpty() || line - from <= 60, "11: too long: " + head);
        }
    }

    private static void face() {
        Set<String> seen = new TreeSet<>();
        for (Constructor<?> made : SunMirrors.class.getDeclaredConstructors()) {
            seen.add("SunMirrors(" + parameters(made.getParameterTypes()) + ")");
        }
        for (Method method : SunMirrors.class.getDeclaredMethods()) {
            if (Modifier.isPrivate(method.getModifiers()) || method.isSynthetic()) continue;
            seen.add(method.getReturnType().getSimpleName() + " " + method.getName() + "(" + parameters(method.getParameterTypes()) + ")");
            must(Modifier.isPublic(method.getModifiers()), "1: " + method);
        }
        for (Field field : SunMirrors.class.getDeclaredFields()) {
            if (!Modifier.isPrivate(field.getModifiers())) seen.add(field.getType().getSimpleName() + " " + field.getName());
        }
        must(seen.equals(FACE), "1: the face is " + seen);
        must(Modifier.isFinal(SunMirrors.class.getModifiers()), "1: the class is not final");
    }

    private static String parameters(Class<?>[] types) {
        List<String> names = new ArrayList<>();
        for (Class<?> type : types) names.add(type.getSimpleName());
        return String.join(",", names);
    }

    private static void members(Class<?> one) {
        int fields = 0;
        for (Field field : one.getDeclaredFields()) {
            if (Modifier.isStatic(field.getModifiers())) must(Modifier.isFinal(field.getModifiers()), "5: " + field);
            else fields++;
        }
        must(fields <= 20, "11: " + one + " has " + fields + " fields");
        for (Method method : one.getDeclaredMethods()) {
            must(method.getParameterCount() <= 7, "11: " + method);
            boolean isFaces = FACE.stream().anyMatch(name -> name.contains(" " + method.getName() + "("));
            must(one == SunMirrors.class && Modifier.isPublic(method.getModifiers()) || !isFaces, "1: " + method);
        }
    }
}
