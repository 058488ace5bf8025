import java.util.ArrayList;
import java.util.List;
import java.util.Random;

/** Holds the class against the Model over many runs of calls; the runs are the same each time. */
public final class RandomRuns {
    private static final int RUNS = Integer.getInteger("runs", 400);
    private static final int CALLS = 512;

    private final Random random;
    private final SunMirrors real = new SunMirrors();
    private final Model model = new Model();
    private final List<String> calls = new ArrayList<>();
    private final int grid;
    private boolean wrong = false;

    private RandomRuns(long seed) {
        random = new Random(seed);
        grid = random.nextBoolean() ? 40 : 4;
    }

    public static void main(String[] args) {
        int wrong = 0;
        for (int seed = 0; seed < RUNS && wrong < 5; seed++) {
            RandomRuns run = new RandomRuns(seed);
            if (!run.isRight()) {
                wrong++;
                System.out.println("seed " + seed + ", the last call is wrong: " + run.calls);
            }
        }
        System.out.println(wrong == 0 ? RUNS + " random runs are as the model's" : wrong + " random runs are wrong");
        if (wrong != 0) System.exit(1);
    }

    private boolean isRight() {
        try {
            int mirrors = random.nextInt(6) == 0 ? random.nextInt(3) : 3 + random.nextInt(4);
            for (int i = 0; i < mirrors; i++) callMirror();
            int patches = random.nextInt(6) == 0 ? random.nextInt(3) : 2 + random.nextInt(5);
            for (int i = 0; i < patches; i++) callPatch();
            int walls = random.nextInt(4);
            for (int i = 0; i < walls; i++) callWall();
            if (random.nextInt(8) > 0) callValley();
            while (calls.size() < CALLS && !wrong) callAny();
        } catch (RuntimeException e) {
            calls.add(e.toString());
            e.printStackTrace(System.out);
            wrong = true;
        }
        return !wrong;
    }

    private void due(String call, long got, long want) {
        calls.add(call + " = " + got);
        if (got != want) {
            calls.add("due is " + want);
            wrong = true;
        }
    }

    /** A number from 0 to most, now and then one near or far outside. */
    private int some(int most) {
        switch (random.nextInt(24)) {
            case 0: return random.nextInt(most + 6) - 3;
            case 1: return random.nextInt(8) > 0 ? most + random.nextInt(2) : random.nextInt();
            default: return random.nextInt(most + 1);
        }
    }

    private int someMirror() {
        return some(Math.max(0, model.count(0) - 1));
    }

    private int somePatch() {
        return some(Math.max(0, model.count(1) - 1));
    }

    private int point() {
        if (random.nextInt(40) == 0) return random.nextInt(5000) - 200;
        int step = grid == 4 ? random.nextInt(10) + 1 : 1;
        return 100 * step * random.nextInt(40 / step + 1) % 4100 + step * random.nextInt(40 / step + 1) % 41;
    }

    private void callMirror() {
        int kind = some(6);
        int at = point();
        int height = random.nextInt(20) == 0 ? random.nextInt(100) : 1 + random.nextInt(40);
        int size = random.nextInt(40) == 0 ? 0 : 1 + random.nextInt(9);
        int v = random.nextInt(3) == 0 ? random.nextInt(10) : random.nextInt(4);
        int is = 10000 * random.nextInt(100) + 100 * height + 10 * size + v;
        if (random.nextInt(40) == 0) is = random.nextInt(4) == 0 ? random.nextInt() : 1000000 + is;
        due("mirror(" + kind + ", " + at + ", " + is + ")", real.mirror(kind, at, is), model.mirror(kind, at, is));
    }

    private void callPatch() {
        int at = point();
        int worth = some(20);
        int snow = some(20);
        due("patch(" + at + ", " + worth + ", " + snow + ")", real.patch(at, worth, snow), model.patch(at, worth, snow));
    }

    private void callWall() {
        int from = point();
        int to = point();
        int height = random.nextInt(20) == 0 ? random.nextInt(90) - 20 : 1 + random.nextInt(random.nextBoolean() ? 40 : 8);
        due("wall(" + from + ", " + to + ", " + height + ")", real.wall(from, to, height), model.wall(from, to, height));
    }

    private void callFeed(String text) {
        for (int from = 0; from < text.length(); ) {
            int n = Math.min(text.length() - from, 1 + random.nextInt(8));
            long w = random.nextLong();
            for (int i = 0; i < n; i++) w = w << 8 | text.charAt(from + i);
            due("feed(" + w + "L, " + n + ")", real.feed(w, n), model.feed(w, n));
            from += n;
        }
    }

    private void callValley() {
        String text = valleyText();
        if (random.nextInt(4) == 0) text = spoilt(text);
        if (random.nextInt(20) == 0) text = spoilt(text);
        callFeed(text);
        due("valley()", real.valley(), model.valley());
    }

    private String spoilt(String text) {
        int at = random.nextInt(text.length() + 1);
        String end = text.substring(at);
        String sign = "" + (random.nextInt(8) == 0 ? (char) random.nextInt(256) : "mpqdh<=>!()|&; 0123456789litc".charAt(random.nextInt(29)));
        switch (random.nextInt(4)) {
            case 0: return text.substring(0, at);
            case 1: return text.substring(0, at) + sign + end;
            case 2: return end.isEmpty() ? text : text.substring(0, at) + end.substring(1);
            default: return end.isEmpty() ? text : text.substring(0, at) + sign + end.substring(1);
        }
    }

    private String valleyText() {
        StringBuilder text = new StringBuilder();
        int clauses = random.nextInt(12) == 0 ? 9 + random.nextInt(3) : 1 + random.nextInt(6);
        for (int i = 0; i < clauses; i++) {
            if (i > 0) text.append(';');
            int kind = i == 0 && random.nextInt(12) > 0 ? 0 : random.nextInt(clauses > 8 ? 9 : 6);
            int deep = clauses > 8 ? 0 : random.nextInt(10) == 0 ? 6 : 2;
            if (kind == 0 || kind == 1) text.append("lit ").append(random.nextInt(3) == 0 ? "q<9" : rule(deep));
            else if (kind == 2) text.append("eyes ").append(rule(deep));
            else if (kind == 3) text.append("own ").append(rule(deep));
            else if (kind % 2 == 0) text.append("cloud ").append(random.nextInt(random.nextBoolean() ? 11 : 100));
            else text.append("turn ").append(random.nextInt(random.nextBoolean() ? 4 : 100));
        }
        return text.toString();
    }

    private String rule(int deep) {
        StringBuilder rule = new StringBuilder(all(deep));
        while (random.nextInt(3) == 0 && rule.length() < 50) rule.append('|').append(all(deep));
        return rule.toString();
    }

    private String all(int deep) {
        StringBuilder all = new StringBuilder(factor(deep));
        while (random.nextInt(4) == 0 && all.length() < 40) all.append('&').append(factor(deep));
        return all.toString();
    }

    private String factor(int deep) {
        int kind = deep <= 0 ? 9 : random.nextInt(deep > 4 ? 2 : 8);
        if (kind == 0) return "!" + factor(deep - 1);
        if (kind == 1) return "(" + rule(deep - 1) + ")";
        char tested = "mpqqqdh".charAt(random.nextInt(7));
        int most = tested == 'q' ? 8 : tested == 'h' ? 40 : tested == 'd' ? 20 : 6;
        int number = random.nextInt(12) == 0 ? random.nextInt(100) : random.nextInt(most + 1);
        return "" + tested + "<=>".charAt(random.nextInt(3)) + number;
    }

    private void callVote() {
        int size = Math.max(0, model.count(1));
        List<Integer> left = new ArrayList<>();
        for (int p = 0; p < size; p++) left.add(p);
        int digits = 0;
        while (!left.isEmpty()) digits = 10 * digits + left.remove(random.nextInt(left.size()));
        if (random.nextInt(10) == 0) digits = random.nextInt(3) == 0 ? random.nextInt() : digits + random.nextInt(21) - 10;
        due("vote(" + digits + ")", real.vote(digits), model.vote(digits));
    }

    private void callPlan(int m, int q, int p) {
        due("plan(" + m + ", " + q + ", " + p + ")", real.plan(m, q, p), model.plan(m, q, p));
    }

    private void callPlans() {
        int m = someMirror();
        int p = somePatch();
        for (int i = 0; i < 3 && model.can(m, p, 1) <= 0; i++) p = somePatch();
        for (int q = 0; q < 8; q++) {
            if (random.nextInt(6) == 0) p = somePatch() - random.nextInt(2);
            callPlan(m, q, p);
        }
    }

    private void callAny() {
        int kind = random.nextInt(44);
        if (kind < 30) callAsking(kind);
        else if (kind < 33) callPlan(someMirror(), some(7), somePatch() - random.nextInt(2));
        else if (kind < 36) callPlans();
        else if (kind == 36 || kind == 37) callVote();
        else callRare(kind);
    }

    private void callRare(int kind) {
        if (kind == 38 && random.nextInt(3) == 0) callValley();
        if (kind == 39 && random.nextInt(6) == 0) callWall();
        if (kind == 40 && random.nextInt(6) == 0) callPatch();
        if (kind == 40 && random.nextInt(6) == 0) callMirror();
        if (kind == 41 && random.nextInt(4) == 0) due("clear()", real.clear(), model.clear());
        if (kind == 42 && random.nextInt(2) == 0) due("image()", real.image(), model.image());
        if (kind == 42 && random.nextInt(4) == 0) due("undo()", real.undo(), model.undo());
        if (kind == 43 && random.nextInt(3) == 0) callFeed(random.nextBoolean() ? "lit q" : spoilt("12345678;lit"));
        if (kind == 43 && random.nextInt(9) == 0) callDays();
    }

    private void callDays() {
        int days = random.nextInt(random.nextBoolean() ? 3 : 40);
        for (int i = 0; i < days; i++) due("day()", real.day(), model.day());
    }

    private void callAsking(int kind) {
        int m = someMirror();
        int p = somePatch();
        int q = some(7);
        switch (kind) {
            case 0: { int w = some(6); due("of(" + m + ", " + w + ")", real.of(m, w), model.of(m, w)); break; }
            case 1: { int w = some(3); due("is(" + p + ", " + w + ")", real.is(p, w), model.is(p, w)); break; }
            case 2: case 3: due("free(" + m + ", " + p + ")", real.free(m, p), model.free(m, p)); break;
            case 4: case 5: { int w = some(1); due("can(" + m + ", " + p + ", " + w + ")", real.can(m, p, w), model.can(m, p, w)); break; }
            case 6: case 7: due("judged()", real.judged(), model.judged()); break;
            case 8: case 9: { int w = some(2); due("has(" + p + ", " + w + ")", real.has(p, w), model.has(p, w)); break; }
            case 10: { int w = some(1); due("worth(" + w + ")", real.worth(w), model.worth(w)); break; }
            case 11: if (random.nextInt(4) == 0) callBest(m); break;
            case 12: if (random.nextInt(4) == 0) { int w = some(1); due("fair(" + w + ")", real.fair(w), model.fair(w)); } break;
            case 13: { int c = some(300); int w = some(2); due("take(" + c + ", " + w + ")", real.take(c, w), model.take(c, w)); break; }
            case 14: { int n = some(9); due("coarse(" + n + ")", real.coarse(n), model.coarse(n)); break; }
            case 15: case 16: callKept(p); break;
            case 17: due("gone(" + p + ")", real.gone(p), model.gone(p)); break;
            case 18: case 19: due("passed(" + m + ", " + p + ", " + q + ")", real.passed(m, p, q), model.passed(m, p, q)); break;
            case 20: { int w = random.nextInt(2); due("holds(" + w + ")", real.holds(w), model.holds(w)); break; }
            case 21: case 22: { int w = some(26); due("holds(" + w + ")", real.holds(w), model.holds(w)); break; }
            case 23: case 24: callAct(m); break;
            case 25: case 26: { int i = some(8); due("trace(" + i + ")", real.trace(i), model.trace(i)); break; }
            case 27: { int k = some(6); due("as(" + m + ", " + k + ")", real.as(m, k), model.as(m, k)); break; }
            default: { int w = some(7); due("count(" + w + ")", real.count(w), model.count(w)); break; }
        }
    }

    private void callBest(int m) {
        for (int i = -1; i < 8; i++) {
            int asked = random.nextInt(20) == 0 ? some(8) - 1 : i;
            due("best(" + m + ", " + asked + ")", real.best(m, asked), model.best(m, asked));
        }
    }

    private void callKept(int p) {
        int k = some(8);
        int part = some(1);
        due("kept(" + p + ", " + k + ", " + part + ")", real.kept(p, k, part), model.kept(p, k, part));
    }

    private void callAct(int m) {
        int act = some(2);
        int x = random.nextBoolean() ? random.nextInt() : random.nextInt(100);
        due("act(" + m + ", " + act + ", " + x + ")", real.act(m, act, x), model.act(m, act, x));
    }
}
