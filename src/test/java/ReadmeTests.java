import java.io.File;
import java.lang.reflect.Method;
import java.nio.file.Files;
import java.nio.file.Path;
import java.util.ArrayList;
import java.util.HashMap;
import java.util.HashSet;
import java.util.List;
import java.util.Map;
import java.util.Set;
import java.util.regex.Matcher;
import java.util.regex.Pattern;

/** README.md says what is so: each call that it shows answers as the remark behind it says. */
public final class ReadmeTests {
    private static final Pattern MADE = Pattern.compile("SunMirrors (\\w+) = new SunMirrors\\(\\);");
    private static final Pattern CALL = Pattern.compile("(\\w+)\\.(\\w+)\\((.*)\\);\\s+// (-?\\d+|NO)( [A-Z]+)?(:.*)?");
    private static final Pattern REFUSAL = Pattern.compile("\\| `([A-Z]+)` \\| (-\\d+) \\|.*");
    private static final Pattern TEST = Pattern.compile("`(\\w+)`");
    private static final List<String> REFUSALS = List.of("NONE", "BAD", "STATE", "FULL", "NO");

    private static final Map<String, SunMirrors> objects = new HashMap<>();
    private static final Set<String> shown = new HashSet<>();
    private static final Set<String> told = new HashSet<>();
    private static int wrong = 0;
    private static int asked = 0;

    public static void main(String[] args) throws Exception {
        List<String> readme = Files.readAllLines(Path.of("README.md"));
        for (String line : codeOf(readme)) {
            run(line);
        }
        for (String line : readme) {
            Matcher refusal = REFUSAL.matcher(line);
            if (refusal.matches()) {
                told.add(refusal.group(1));
                due(line, constant(refusal.group(1)), Long.parseLong(refusal.group(2)));
            }
        }
        must(told.containsAll(REFUSALS), "the refusals told are " + told);
        must(shown.containsAll(REFUSALS), "the refusals shown are " + shown);
        must(asked > 20, "only " + asked + " answers are shown");
        must(String.join("\n", readme).contains("serves 512 calls"), "it does not say for how many calls an object serves");
        must(readme.contains(".ci/run"), "it does not say that .ci/run runs the tests");
        testsAreNamed(readme);
        System.out.println(asked + " answers shown, " + wrong + " not as README.md says");
        if (wrong != 0) System.exit(1);
    }

    private static void must(boolean is, String otherwise) {
        if (is) return;
        wrong++;
        System.out.println("README.md: " + otherwise);
    }

    private static void due(String line, long got, long want) {
        asked++;
        must(got == want, line.trim() + " (it is " + got + ")");
    }

    private static List<String> codeOf(List<String> readme) {
        List<String> code = new ArrayList<>();
        boolean inCode = false;
        for (String line : readme) {
            if (line.startsWith("```")) {
                inCode = line.equals("```java");
            } else if (inCode && !line.isBlank()) {
                code.add(line);
            }
        }
        return code;
    }

    private static void run(String line) throws Exception {
        Matcher made = MADE.matcher(line);
        Matcher call = CALL.matcher(line);
        if (made.matches()) {
            objects.put(made.group(1), new SunMirrors());
        } else if (call.matches() && objects.containsKey(call.group(1))) {
            long want = call.group(4).equals("NO") ? SunMirrors.NO : Long.parseLong(call.group(4));
            due(line, answer(objects.get(call.group(1)), call.group(2), call.group(3)), want);
            String name = call.group(4).equals("NO") ? "NO" : call.group(5) == null ? "" : call.group(5).trim();
            if (!name.isEmpty()) {
                shown.add(name);
                must(constant(name) == want, line + " (" + name + " is " + constant(name) + ")");
            }
        } else {
            must(false, "no call with its answer: " + line);
        }
    }

    private static long constant(String name) throws Exception {
        return ((Number) SunMirrors.class.getField(name).get(null)).longValue();
    }

    private static long answer(SunMirrors s, String name, String written) throws Exception {
        String[] words = written.isEmpty() ? new String[0] : written.split(", ");
        for (Method method : SunMirrors.class.getMethods()) {
            if (method.getName().equals(name) && method.getParameterCount() == words.length) {
                return ((Number) method.invoke(s, numbers(words, method.getParameterTypes()))).longValue();
            }
        }
        throw new IllegalArgumentException("no such call: " + name + "(" + written + ")");
    }

    private static Object[] numbers(String[] words, Class<?>[] types) {
        Object[] numbers = new Object[words.length];
        for (int i = 0; i < words.length; i++) {
            if (types[i] == long.class) {
                numbers[i] = Long.decode(words[i].replace("L", ""));
            } else {
                numbers[i] = Integer.decode(words[i]);
            }
        }
        return numbers;
    }

    /** Each file of src/test/java is named, and no test that is not there. */
    private static void testsAreNamed(List<String> readme) {
        Set<String> named = new HashSet<>();
        for (String line : readme.subList(readme.indexOf("## Tests"), readme.size())) {
            Matcher test = TEST.matcher(line);
            while (test.find()) {
                if (Character.isUpperCase(test.group(1).charAt(0))) named.add(test.group(1));
            }
        }
        Set<String> there = new HashSet<>();
        for (String file : new File("src/test/java").list()) {
            there.add(file.replace(".java", ""));
        }
        must(named.equals(there), "it names " + named + ", there are " + there);
    }
}
