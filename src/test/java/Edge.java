import java.nio.charset.StandardCharsets;
import java.util.ArrayList;
import java.util.List;

/** What the tests of the edges share: a name for each, scenes, and calls that are refused and must change nothing. */
final class Edge {
    static final int LEAST = make(0, 1, 1, 0);
    static final int GREATEST = make(99, 40, 9, 9);
    static final String WHOLE = "lit " + "q=1|".repeat(28) + "q=10";

    private static String promise = "";
    private static String sentence = "";
    private static int tests = 0;
    private static int answers = 0;
    private static int wrong = 0;

    interface Scene {
        SunMirrors make();
    }

    interface Call {
        long on(SunMirrors s);
    }

    private interface Look {
        void on(SunMirrors s, List<String> seen);
    }

    private static final List<Look> LOOKS = List.of(Edge::seeMade, Edge::seeWays, Edge::seePlans, Edge::seeChances, Edge::seePassed,
        Edge::seePlan, Edge::seeVotes, Edge::seeTrace, Edge::seeTape, Edge::seeImage, Edge::seeDay);

    private Edge() {
    }

    // ---- tests

    static void promise(String name) {
        promise = name;
    }

    /** A test of its own for a sentence of the document. */
    static void test(String ofSentence, Runnable body) {
        sentence = ofSentence;
        tests++;
        int before = answers;
        body.run();
        if (answers == before) fail("asks nothing");
    }

    static void due(String call, long got, long want) {
        answers++;
        if (got != want) fail(call + " answered " + got + ", due is " + want);
    }

    /** A call is refused, and all that can be asked behind it is as it is without it; twice, the same. */
    static void refused(String call, Scene scene, Call made, long want) {
        SunMirrors twice = scene.make();
        due(call, made.on(twice), want);
        due(call + " once more", made.on(twice), want);
        same(call, () -> {
            SunMirrors s = scene.make();
            made.on(s);
            return s;
        }, scene);
    }

    /** All that can be asked of the one is as of the other. */
    static void same(String what, Scene one, Scene other) {
        for (Look look : LOOKS) {
            List<String> got = new ArrayList<>();
            List<String> want = new ArrayList<>();
            look.on(one.make(), got);
            look.on(other.make(), want);
            answers++;
            if (!got.equals(want)) fail(what + " changed " + firstChange(got, want));
        }
    }

    private static String firstChange(List<String> got, List<String> want) {
        for (int i = 0; i < got.size() && i < want.size(); i++) {
            if (!got.get(i).equals(want.get(i))) return want.get(i) + " to " + got.get(i);
        }
        return "how much there is";
    }

    private static void fail(String how) {
        wrong++;
        System.out.println(promise + ", \"" + sentence + "\": " + how);
    }

    static void end() {
        System.out.println(tests + " sentences, " + answers + " answers asked, " + wrong + " not as due");
        if (wrong != 0) System.exit(1);
    }

    // ---- numbers and texts

    static int make(int cost, int height, int size, int v) {
        return 10000 * cost + 100 * height + 10 * size + v;
    }

    static void feed(SunMirrors s, String text) {
        for (int from = 0; from < text.length(); from += 8) {
            long w = 0;
            int n = Math.min(8, text.length() - from);
            for (byte sign : text.substring(from, from + n).getBytes(StandardCharsets.ISO_8859_1)) {
                w = w << 8 | sign & 255;
            }
            s.feed(w, n);
        }
    }

    static int read(SunMirrors s, String text) {
        feed(s, text);
        return s.valley();
    }

    /** The FAULT of a text on a new object; -1 if it is a VALLEY. */
    static int fault(String text) {
        int answer = read(new SunMirrors(), text);
        return answer == 0 ? -1 : -10 - answer;
    }

    static void plan(SunMirrors s, int mirror, String row) {
        for (int quarter = 0; quarter < row.length(); quarter++) {
            s.plan(mirror, quarter, row.charAt(quarter) == '-' ? -1 : row.charAt(quarter) - '0');
        }
    }

    // ---- scenes

    static SunMirrors empty() {
        return new SunMirrors();
    }

    /** MIRRORS at 0, 0 (HEIGHT 9, SIZE 1, COST 1) and PATCHES beside one another, worth 1, with SNOW 20. */
    static SunMirrors plain(int mirrors, int patches, String valley) {
        SunMirrors s = new SunMirrors();
        for (int i = 0; i < mirrors; i++) {
            s.mirror(0, 0, make(1, 9, 1, 0));
        }
        for (int i = 0; i < patches; i++) {
            s.patch(1000 + 100 * i, 1, 20);
        }
        if (!valley.isEmpty()) read(s, valley);
        return s;
    }

    /** Something of all, nothing full; THE TAPE is a VALLEY that is not read yet, THE IMAGE is of other things. */
    static SunMirrors some() {
        SunMirrors s = new SunMirrors();
        s.mirror(0, 1020, make(50, 30, 5, 3));
        s.patch(2038, 3, 9);
        s.wall(0, 4000, 1);
        read(s, "lit q=7;turn 1");
        s.vote(0);
        feed(s, "own q<");
        s.image();
        s.clear();
        s.mirror(4, 4040, make(11, 40, 4, 7));
        s.mirror(5, 1510, make(6, 20, 5, 2));
        s.patch(510, 10, 20);
        s.patch(2520, 5, 20);
        s.wall(800, 1540, 12);
        read(s, "1;lit q<6&d<9|m=1;eyes p=1&q=3;own p=2&q>6;cloud 3;turn 1");
        plan(s, 0, "001122--");
        plan(s, 1, "2222--11");
        plan(s, 2, "-2222222");
        s.day();
        s.vote(201);
        s.vote(210);
        s.vote(12);
        s.act(1, 2, 5);
        feed(s, "lit q=1|q>5;cloud 7;turn 0");
        return s;
    }

    /** All is full: 6, 6, 8, 5, DAY 89, 5 rows, 120 bytes; THE IMAGE is taken ahead of it. */
    static SunMirrors full() {
        SunMirrors s = new SunMirrors();
        s.image();
        for (int i = 0; i < 6; i++) {
            s.mirror(6 - i, 607 * i, make(9 * i, 5 * i + 12, i + 1, i));
            s.patch(4000 - 300 * i, 3 * i, 4 * i);
        }
        for (int i = 0; i < 8; i++) {
            s.wall(100 * i + 900, 100 * i + 940, i + 1);
        }
        for (int i = 0; i < 5; i++) {
            read(s, "lit q<7&m<5|q=" + i + ";cloud " + i);
        }
        feed(s, WHOLE);
        for (int i = 0; i < 89; i++) {
            s.day();
        }
        plan(s, 3, "00112233");
        plan(s, 4, "44444444");
        plan(s, 0, "5--52211");
        s.vote(543210);
        for (int i = 0; i < 4; i++) {
            s.vote(201354);
        }
        s.act(2, 2, 7);
        return s;
    }

    /** One PATCH came since the first row. */
    static SunMirrors late() {
        SunMirrors s = some();
        s.patch(3030, 1, 1);
        return s;
    }

    /** The rows are full, and a PATCH came since the first one. */
    static SunMirrors lateAndFull() {
        SunMirrors s = plain(1, 2, "lit q<8");
        for (int i = 0; i < 5; i++) {
            s.vote(10);
        }
        s.patch(3030, 1, 1);
        return s;
    }

    // ---- all that can be asked

    private static void see(List<String> seen, String call, long answer) {
        seen.add(call + " = " + answer);
    }

    private static void seeMade(SunMirrors s, List<String> seen) {
        int mirrors = s.count(0);
        int patches = s.count(1);
        for (int what = 0; what < 8; what++) {
            see(seen, "count(" + what + ")", s.count(what));
        }
        for (int m = 0; m < mirrors; m++) {
            for (int what = 0; what < 7; what++) {
                see(seen, "of(" + m + ", " + what + ")", s.of(m, what));
                see(seen, "as(" + m + ", " + what + ")", s.as(m, what));
            }
        }
        for (int p = 0; p < patches; p++) {
            for (int what = 0; what < 4; what++) {
                see(seen, "is(" + p + ", " + what + ")", s.is(p, what));
            }
        }
    }

    private static void seeWays(SunMirrors s, List<String> seen) {
        int mirrors = s.count(0);
        int patches = s.count(1);
        for (int m = 0; m < mirrors; m++) {
            for (int p = 0; p < patches; p++) {
                see(seen, "free(" + m + ", " + p + ")", s.free(m, p));
                see(seen, "can(" + m + ", " + p + ", 0)", s.can(m, p, 0));
                see(seen, "can(" + m + ", " + p + ", 1)", s.can(m, p, 1));
            }
        }
    }

    private static void seePlans(SunMirrors s, List<String> seen) {
        int mirrors = s.count(0);
        int patches = s.count(1);
        see(seen, "judged()", s.judged());
        for (int what = 0; what < 2; what++) {
            see(seen, "worth(" + what + ")", s.worth(what));
            see(seen, "fair(" + what + ")", s.fair(what));
        }
        for (int coin = 0; coin <= 300; coin += 25) {
            see(seen, "take(" + coin + ", 0)", s.take(coin, 0));
            see(seen, "take(" + coin + ", 1)", s.take(coin, 1));
        }
        for (int n = 1; n <= 9; n++) {
            see(seen, "coarse(" + n + ")", s.coarse(n));
        }
        for (int p = 0; p < patches; p++) {
            for (int what = 0; what < 3; what++) {
                see(seen, "has(" + p + ", " + what + ")", s.has(p, what));
            }
        }
        for (int m = 0; m < mirrors; m++) {
            for (int i = -1; i < 8; i++) {
                see(seen, "best(" + m + ", " + i + ")", s.best(m, i));
            }
        }
    }

    private static void seeChances(SunMirrors s, List<String> seen) {
        int patches = s.count(1);
        for (int p = 0; p < patches; p++) {
            see(seen, "gone(" + p + ")", s.gone(p));
            for (int k = 0; k <= 8; k++) {
                see(seen, "kept(" + p + ", " + k + ", 0)", s.kept(p, k, 0));
                see(seen, "kept(" + p + ", " + k + ", 1)", s.kept(p, k, 1));
            }
        }
    }

    private static void seePassed(SunMirrors s, List<String> seen) {
        int mirrors = s.count(0);
        int patches = s.count(1);
        for (int m = 0; m < mirrors; m++) {
            for (int p = 0; p < patches; p++) {
                for (int q = 0; q < 8; q++) {
                    see(seen, "passed(" + m + ", " + p + ", " + q + ")", s.passed(m, p, q));
                }
            }
        }
    }

    private static void seePlan(SunMirrors s, List<String> seen) {
        int mirrors = s.count(0);
        for (int m = 0; m < mirrors; m++) {
            for (int q = 0; q < 8; q++) {
                see(seen, "plan(" + m + ", " + q + ", -1)", s.plan(m, q, -1));
            }
        }
    }

    private static void seeVotes(SunMirrors s, List<String> seen) {
        for (int what = 0; what < 30; what++) {
            see(seen, "holds(" + what + ")", s.holds(what));
        }
        see(seen, "vote()", s.vote(new int[] {0, 0, 1, 12, 123, 1234, 12345}[s.count(1)]));
        see(seen, "holds(0)", s.holds(0));
        see(seen, "clear()", s.clear());
    }

    private static void seeTrace(SunMirrors s, List<String> seen) {
        for (int i = 0; i < 21; i++) {
            see(seen, "trace(" + i + ")", s.trace(i));
        }
    }

    private static void seeTape(SunMirrors s, List<String> seen) {
        see(seen, "count(6)", s.count(6));
        see(seen, "valley()", s.valley());
        see(seen, "count(6) behind valley()", s.count(6));
        see(seen, "judged()", s.judged());
        seeWays(s, seen);
    }

    private static void seeImage(SunMirrors s, List<String> seen) {
        see(seen, "undo()", s.undo());
        seeMade(s, seen);
        seeWays(s, seen);
        see(seen, "judged()", s.judged());
        see(seen, "holds(0)", s.holds(0));
        see(seen, "feed()", s.feed('1', 1));
        see(seen, "valley()", s.valley());
    }

    private static void seeDay(SunMirrors s, List<String> seen) {
        int patches = s.count(1);
        see(seen, "day()", s.day());
        for (int p = 0; p < patches; p++) {
            see(seen, "is(" + p + ", 3)", s.is(p, 3));
            see(seen, "has(" + p + ", 0)", s.has(p, 0));
        }
        see(seen, "next mirror()", s.mirror(0, 0, LEAST));
        see(seen, "next patch()", s.patch(0, 0, 0));
        see(seen, "next wall()", s.wall(0, 0, 1));
    }
}
