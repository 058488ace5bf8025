import java.util.List;

/** The edges of promises 1 to 8: MIRRORS, PATCHES, WALLS, THE TAPE, VALLEYS. A test a sentence that names a boundary. */
public final class EdgesOfMaking {
    private static final int LEAST = Edge.LEAST;
    private static final int[] FAR = {Integer.MIN_VALUE, Integer.MIN_VALUE + 1, Integer.MAX_VALUE - 1, Integer.MAX_VALUE};

    public static void main(String[] args) {
        aNewObject();
        lastCall();
        mirrorNumbers();
        mirrorRefusals();
        patch();
        wall();
        of();
        is();
        feed();
        valley();
        valleyEndsTooEarly();
        valleyFaults();
        valleyLimits();
        Edge.end();
    }

    private static void aNewObject() {
        Edge.promise("1 a new object");
        Edge.test("No MIRRORS, no PATCHES; it is DAY 0 at first", () -> {
            for (int what = 0; what < 8; what++) {
                Edge.due("count(" + what + ")", new SunMirrors().count(what), 0);
            }
        });
        Edge.test("nothing there yet: NONE", () -> {
            Edge.refused("of(0, 0)", Edge::empty, s -> s.of(0, 0), -1);
            Edge.refused("is(0, 0)", Edge::empty, s -> s.is(0, 0), -1);
            Edge.refused("free(0, 0)", Edge::empty, s -> s.free(0, 0), -1);
            Edge.refused("can(0, 0, 0)", Edge::empty, s -> s.can(0, 0, 0), -1);
            Edge.refused("plan(0, 0, -1)", Edge::empty, s -> s.plan(0, 0, -1), -1);
            Edge.refused("has(0, 0)", Edge::empty, s -> s.has(0, 0), -1);
            Edge.refused("best(0, -1)", Edge::empty, s -> s.best(0, -1), -1);
            Edge.refused("gone(0)", Edge::empty, s -> s.gone(0), -1);
            Edge.refused("passed(0, 0, 0)", Edge::empty, s -> s.passed(0, 0, 0), -1);
            Edge.refused("holds(10)", Edge::empty, s -> s.holds(10), -1);
            Edge.refused("holds(20)", Edge::empty, s -> s.holds(20), -1);
            Edge.refused("trace(0)", Edge::empty, s -> s.trace(0), -1);
            Edge.refused("as(0, 0)", Edge::empty, s -> s.as(0, 0), -1);
            Edge.refused("kept(0, 0, 0)", Edge::empty, s -> s.kept(0, 0, 0), Long.MIN_VALUE);
        });
        Edge.test("nothing there yet: STATE", () -> {
            Edge.refused("vote(0)", Edge::empty, s -> s.vote(0), -3);
            Edge.refused("holds(0)", Edge::empty, s -> s.holds(0), -3);
            Edge.refused("holds(1)", Edge::empty, s -> s.holds(1), -3);
            Edge.refused("undo()", Edge::empty, SunMirrors::undo, -3);
        });
        Edge.test("nothing there yet, but it is answered", () -> {
            Edge.refused("judged()", Edge::empty, SunMirrors::judged, -5);
            Edge.refused("worth(0)", Edge::empty, s -> s.worth(0), 0);
            Edge.refused("worth(1)", Edge::empty, s -> s.worth(1), -5);
            Edge.refused("fair(0)", Edge::empty, s -> s.fair(0), -5);
            Edge.refused("fair(1)", Edge::empty, s -> s.fair(1), -5);
            for (int what = 0; what < 3; what++) {
                int asked = what;
                Edge.refused("take(300, " + what + ")", Edge::empty, s -> s.take(300, asked), 0);
            }
            Edge.refused("coarse(1)", Edge::empty, s -> s.coarse(1), 0);
            Edge.refused("clear()", Edge::empty, SunMirrors::clear, 0);
            Edge.refused("act(0, 0, 7)", Edge::empty, s -> s.act(0, 0, 7), 0);
            Edge.refused("valley() of no byte", Edge::empty, SunMirrors::valley, -10);
            Edge.due("image()", new SunMirrors().image(), 0);
            Edge.due("day()", new SunMirrors().day(), 1);
        });
    }

    private static void lastCall() {
        Edge.promise("1 a new object");
        Edge.test("used for at most 512 calls: the last one is as the first", () -> {
            SunMirrors s = new SunMirrors();
            for (int call = 1; call < 512; call++) {
                s.valley();
            }
            Edge.due("mirror()", s.mirror(0, 0, LEAST), 0);
            SunMirrors planned = Edge.plain(1, 1, "lit q<8");
            for (int call = 5; call < 512; call++) {
                planned.plan(0, call % 8, call % 2 - 1);
            }
            Edge.due("has(0, 0)", planned.has(0, 0), 4);
        });
    }

    private static void dueMirror(int at, int is, int what, int want) {
        SunMirrors s = new SunMirrors();
        Edge.due("mirror(0, " + at + ", " + is + ")", s.mirror(0, at, is), 0);
        Edge.due("of(0, " + what + ") of mirror(0, " + at + ", " + is + ")", s.of(0, what), want);
    }

    private static void badMirror(int at, int is) {
        Edge.refused("mirror(0, " + at + ", " + is + ")", Edge::some, s -> s.mirror(0, at, is), -2);
    }

    private static void mirrorNumbers() {
        Edge.promise("2 mirror");
        Edge.test("KINDS of MIRRORS: 0 MIRROR .. 6 TOLD", () -> {
            for (int kind = 0; kind <= 6; kind++) {
                SunMirrors s = new SunMirrors();
                Edge.due("kind " + kind, s.mirror(kind, 0, LEAST), 0);
                Edge.due("its kind", s.of(0, 0), kind);
            }
        });
        Edge.test("x (0 .. 40)", () -> {
            dueMirror(0, LEAST, 1, 0);
            dueMirror(4000, LEAST, 1, 40);
            dueMirror(4040, LEAST, 1, 40);
            for (int at : new int[] {4100, 4140, 9900, 10000, 14000, -100, -4000, 2147483600}) badMirror(at, LEAST);
        });
        Edge.test("y (0 .. 40)", () -> {
            dueMirror(40, LEAST, 2, 40);
            dueMirror(4000, LEAST, 2, 0);
            for (int at : new int[] {41, 99, 4041, 4099, 141, -1, -40, -41, -60, -99}) badMirror(at, LEAST);
        });
        Edge.test("at is an int", () -> {
            for (int at : FAR) badMirror(at, LEAST);
        });
        Edge.test("a HEIGHT (1 .. 40)", () -> {
            dueMirror(0, Edge.make(0, 1, 1, 0), 3, 1);
            dueMirror(0, Edge.make(99, 40, 9, 9), 3, 40);
            for (int height : new int[] {0, 41, 50, 99}) {
                badMirror(0, Edge.make(0, height, 1, 0));
                badMirror(0, Edge.make(99, height, 9, 9));
            }
        });
        Edge.test("a SIZE (1 .. 9)", () -> {
            dueMirror(0, Edge.make(0, 1, 1, 9), 4, 1);
            dueMirror(0, Edge.make(0, 1, 9, 9), 4, 9);
            badMirror(0, Edge.make(0, 1, 0, 0));
            badMirror(0, Edge.make(99, 40, 0, 9));
        });
        Edge.test("a COST (0 .. 99)", () -> {
            dueMirror(0, LEAST, 5, 0);
            dueMirror(0, Edge.make(99, 1, 1, 0), 5, 99);
            badMirror(0, Edge.make(100, 1, 1, 0));
            badMirror(0, Edge.make(199, 40, 9, 9));
            badMirror(0, Edge.make(214748, 10, 1, 0));
        });
        Edge.test("a number v (0 .. 9)", () -> {
            dueMirror(0, Edge.make(0, 1, 1, 0), 6, 0);
            dueMirror(0, Edge.make(0, 1, 1, 9), 6, 9);
        });
        Edge.test("is is an int", () -> {
            for (int is : FAR) badMirror(0, is);
            for (int is : new int[] {-1, -110, -10000, -LEAST, -Edge.GREATEST, 0, 9, 10, 99, 100, 109}) badMirror(0, is);
        });
    }

    private static void mirrorRefusals() {
        Edge.promise("2 mirror");
        Edge.test("MIRRORS are numbered from 0 on, 6 at most", () -> {
            SunMirrors s = new SunMirrors();
            for (int i = 0; i < 6; i++) {
                Edge.due("mirror " + i, s.mirror(i, i, LEAST), i);
            }
            Edge.due("a seventh", s.mirror(0, 0, LEAST), -4);
            Edge.due("count(0)", s.count(0), 6);
            Edge.refused("a seventh", Edge::full, t -> t.mirror(0, 0, LEAST), -4);
            Edge.refused("a seventh, the greatest", Edge::full, t -> t.mirror(6, 4040, Edge.GREATEST), -4);
        });
        Edge.test("NONE: kind", () -> {
            for (int kind : new int[] {-1, 7, -7, 8, 256, 1 << 16}) {
                Edge.refused("kind " + kind, Edge::some, s -> s.mirror(kind, 0, LEAST), -1);
            }
            for (int kind : FAR) {
                Edge.refused("kind " + kind, Edge::some, s -> s.mirror(kind, 0, LEAST), -1);
            }
        });
        Edge.test("NONE; BAD: the first one told", () -> {
            Edge.refused("kind, at", Edge::some, s -> s.mirror(7, 41, LEAST), -1);
            Edge.refused("kind, is", Edge::some, s -> s.mirror(-1, 0, 0), -1);
            Edge.refused("kind, at, is", Edge::some, s -> s.mirror(7, -1, -1), -1);
        });
        Edge.test("NONE; FULL: the first one told", () ->
            Edge.refused("kind of a seventh", Edge::full, s -> s.mirror(7, 0, LEAST), -1));
        Edge.test("BAD; FULL: the first one told", () -> {
            Edge.refused("at of a seventh", Edge::full, s -> s.mirror(0, 41, LEAST), -2);
            Edge.refused("is of a seventh", Edge::full, s -> s.mirror(0, 0, Edge.make(0, 41, 1, 0)), -2);
        });
        Edge.test("NONE; BAD; FULL: the first one told", () ->
            Edge.refused("all of a seventh", Edge::full, s -> s.mirror(-1, -1, -1), -1));
        Edge.test("a refused one takes no number", () -> {
            SunMirrors s = new SunMirrors();
            s.mirror(0, 0, 0);
            s.mirror(7, 0, LEAST);
            Edge.due("the next", s.mirror(0, 0, LEAST), 0);
        });
    }

    private static void badPatch(int at, int worth, int snow) {
        Edge.refused("patch(" + at + ", " + worth + ", " + snow + ")", Edge::some, s -> s.patch(at, worth, snow), -2);
    }

    private static void duePatch(int at, int worth, int snow) {
        SunMirrors s = new SunMirrors();
        Edge.due("patch(" + at + ", " + worth + ", " + snow + ")", s.patch(at, worth, snow), 0);
        Edge.due("its x", s.is(0, 0), at / 100);
        Edge.due("its y", s.is(0, 1), at % 100);
        Edge.due("its worth", s.is(0, 2), worth);
        Edge.due("its snow", s.is(0, 3), snow);
    }

    private static void patch() {
        Edge.promise("3 patch");
        Edge.test("x, y (0 .. 40) of a PATCH", () -> {
            for (int at : new int[] {0, 40, 4000, 4040}) duePatch(at, 0, 0);
            for (int at : new int[] {41, 99, 4041, 4100, 4140, 10000, -1, -100, -99}) badPatch(at, 0, 0);
            for (int at : FAR) badPatch(at, 0, 0);
        });
        Edge.test("a WORTH (0 .. 20)", () -> {
            duePatch(0, 0, 1);
            duePatch(0, 20, 1);
            for (int worth : new int[] {-1, 21, -20, 256}) badPatch(0, worth, 0);
            for (int worth : FAR) badPatch(0, worth, 0);
        });
        Edge.test("SNOW (0 .. 20 quarters till it is gone)", () -> {
            duePatch(0, 1, 0);
            duePatch(0, 1, 20);
            for (int snow : new int[] {-1, 21, -20, 256}) badPatch(0, 0, snow);
            for (int snow : FAR) badPatch(0, 0, snow);
        });
        Edge.test("PATCHES are numbered from 0 on, 6 at most", () -> {
            SunMirrors s = new SunMirrors();
            for (int i = 0; i < 6; i++) {
                Edge.due("patch " + i, s.patch(i, i, i), i);
            }
            Edge.due("a seventh", s.patch(0, 0, 0), -4);
            Edge.due("count(1)", s.count(1), 6);
            Edge.refused("a seventh", Edge::full, t -> t.patch(0, 0, 0), -4);
            Edge.refused("a seventh, the greatest", Edge::full, t -> t.patch(4040, 20, 20), -4);
        });
        Edge.test("BAD; FULL: the first one told", () -> {
            Edge.refused("at of a seventh", Edge::full, s -> s.patch(41, 0, 0), -2);
            Edge.refused("worth of a seventh", Edge::full, s -> s.patch(0, 21, 0), -2);
            Edge.refused("snow of a seventh", Edge::full, s -> s.patch(0, 0, -1), -2);
        });
        Edge.test("a refused one takes no number", () -> {
            SunMirrors s = new SunMirrors();
            s.patch(0, 0, 21);
            Edge.due("the next", s.patch(0, 0, 0), 0);
        });
    }

    private static void badWall(int from, int to, int height) {
        Edge.refused("wall(" + from + ", " + to + ", " + height + ")", Edge::some, s -> s.wall(from, to, height), -2);
    }

    private static void wall() {
        Edge.promise("4 wall");
        Edge.test("two points as of mirror()", () -> {
            for (int at : new int[] {0, 40, 4000, 4040}) {
                SunMirrors s = new SunMirrors();
                Edge.due("from " + at, s.wall(at, 2020, 1), 0);
                Edge.due("to " + at, s.wall(2020, at, 1), 1);
                Edge.due("from and to " + at, s.wall(at, at, 1), 2);
            }
            for (int at : new int[] {41, 99, 4041, 4100, 10000, -1, -100}) {
                badWall(at, 0, 1);
                badWall(0, at, 1);
            }
            for (int at : FAR) {
                badWall(at, 0, 1);
                badWall(0, at, 1);
            }
        });
        Edge.test("a HEIGHT (1 .. 40) of a WALL", () -> {
            SunMirrors s = new SunMirrors();
            Edge.due("1", s.wall(0, 1, 1), 0);
            Edge.due("40", s.wall(0, 1, 40), 1);
            for (int height : new int[] {0, 41, -1, -40, 256}) badWall(0, 1, height);
            for (int height : FAR) badWall(0, 1, height);
        });
        Edge.test("WALLS are numbered from 0 on, 8 at most", () -> {
            SunMirrors s = new SunMirrors();
            for (int i = 0; i < 8; i++) {
                Edge.due("wall " + i, s.wall(i, i + 1, 1), i);
            }
            Edge.due("a ninth", s.wall(0, 1, 1), -4);
            Edge.due("count(2)", s.count(2), 8);
            Edge.refused("a ninth", Edge::full, t -> t.wall(0, 4040, 40), -4);
        });
        Edge.test("the eighth WALL stands", () -> {
            SunMirrors s = Edge.plain(1, 1, "");
            for (int i = 0; i < 7; i++) {
                s.wall(3000, 3040, 40);
            }
            Edge.due("free(0, 0)", s.free(0, 0), 1);
            s.wall(500, 540, 40);
            Edge.due("free(0, 0) behind it", s.free(0, 0), 0);
        });
        Edge.test("BAD; FULL: the first one told", () -> {
            Edge.refused("from of a ninth", Edge::full, s -> s.wall(41, 0, 1), -2);
            Edge.refused("to of a ninth", Edge::full, s -> s.wall(0, 4100, 1), -2);
            Edge.refused("height of a ninth", Edge::full, s -> s.wall(0, 1, 41), -2);
        });
        Edge.test("a refused one takes no number", () -> {
            SunMirrors s = new SunMirrors();
            s.wall(0, 0, 0);
            Edge.due("the next", s.wall(0, 1, 1), 0);
        });
    }

    private static void of() {
        Edge.promise("5 of");
        Edge.test("what 0 KIND .. 6 v", () -> {
            SunMirrors s = new SunMirrors();
            s.mirror(6, 4039, Edge.make(98, 38, 8, 7));
            int[] parts = {6, 40, 39, 38, 8, 98, 7};
            for (int what = 0; what <= 6; what++) {
                Edge.due("of(0, " + what + ")", s.of(0, what), parts[what]);
            }
            for (int what : new int[] {-1, 7, -7, 10}) Edge.refused("what " + what, Edge::some, t -> t.of(0, what), -1);
            for (int what : FAR) Edge.refused("what " + what, Edge::some, t -> t.of(0, what), -1);
        });
        Edge.test("NONE there is no such MIRROR", () -> {
            Edge.due("the last", Edge.some().of(2, 0), 5);
            for (int m : new int[] {-1, 3, 5, 6, 99}) Edge.refused("mirror " + m, Edge::some, s -> s.of(m, 0), -1);
            for (int m : FAR) Edge.refused("mirror " + m, Edge::some, s -> s.of(m, 0), -1);
            Edge.due("the sixth", Edge.full().of(5, 6), 5);
            for (int m : new int[] {6, 7, -1}) Edge.refused("of six, " + m, Edge::full, s -> s.of(m, 6), -1);
        });
    }

    private static void is() {
        Edge.promise("6 is");
        Edge.test("what 0 x .. 3 SNOW", () -> {
            SunMirrors s = new SunMirrors();
            s.patch(4039, 19, 18);
            int[] parts = {40, 39, 19, 18};
            for (int what = 0; what <= 3; what++) {
                Edge.due("is(0, " + what + ")", s.is(0, what), parts[what]);
            }
            for (int what : new int[] {-1, 4, -4, 5, 7}) Edge.refused("what " + what, Edge::some, t -> t.is(0, what), -1);
            for (int what : FAR) Edge.refused("what " + what, Edge::some, t -> t.is(0, what), -1);
        });
        Edge.test("NONE there is no such PATCH", () -> {
            Edge.due("the last", Edge.some().is(2, 0), 25);
            for (int p : new int[] {-1, 3, 5, 6, 99}) Edge.refused("patch " + p, Edge::some, s -> s.is(p, 0), -1);
            for (int p : FAR) Edge.refused("patch " + p, Edge::some, s -> s.is(p, 0), -1);
            Edge.due("the sixth", Edge.full().is(5, 0), 25);
            for (int p : new int[] {6, 7, -1}) Edge.refused("of six, " + p, Edge::full, s -> s.is(p, 2), -1);
        });
    }

    /** A TAPE of so many bytes, all of a VALLEY that could go on. */
    private static SunMirrors tape(int bytes) {
        SunMirrors s = Edge.plain(1, 1, "lit q=5");
        Edge.feed(s, Edge.WHOLE.substring(0, bytes));
        return s;
    }

    private static void feed() {
        Edge.promise("7 feed");
        Edge.test("n 1 .. 8", () -> {
            for (int n = 1; n <= 8; n++) {
                Edge.due("feed(w, " + n + ")", new SunMirrors().feed(0x6C69742071203D31L, n), n);
            }
            for (int n : new int[] {0, 9, -1, -8, 16, 64, 120}) Edge.refused("n " + n, Edge::some, s -> s.feed(0, n), -2);
            for (int n : FAR) Edge.refused("n " + n, Edge::some, s -> s.feed(0, n), -2);
        });
        Edge.test("the n lowest bytes of w, the highest first", () -> {
            long[] words = {0x1111111111111171L, 0x2222222222220000L + 0x713D, 0x3333333333000000L + 0x713D34L,
                0x4444444400000000L + 0x20713D34L, 0x5555550000000000L + 0x7420713D34L, 0x6666000000000000L + 0x697420713D34L,
                0x7700000000000000L + 0x6C697420713D34L, 0x6C697420713D3132L};
            String[] ahead = {"lit ", "lit ", "lit ", "lit", "li", "l", "", ""};
            String[] behind = {"=4", "4", "", "", "", "", "", ""};
            for (int n = 1; n <= 8; n++) {
                SunMirrors s = Edge.plain(1, 1, "");
                Edge.feed(s, ahead[n - 1]);
                s.feed(words[n - 1], n);
                Edge.feed(s, behind[n - 1]);
                Edge.due("valley() with " + n, s.valley(), 0);
                Edge.due("its quarters with " + n, s.can(0, 0, 0), n == 8 ? 0 : 16);
            }
        });
        Edge.test("bytes, the least and the greatest", () -> {
            for (long w : new long[] {0, 127, 128, 255, -1L, Long.MIN_VALUE, Long.MAX_VALUE}) {
                SunMirrors s = new SunMirrors();
                Edge.feed(s, "lit q=1");
                Edge.due("feed(" + w + ", 1)", s.feed(w, 1), 8);
                Edge.due("its fault", s.valley(), -17);
            }
            SunMirrors s = new SunMirrors();
            Edge.due("feed(Long.MIN_VALUE, 8)", s.feed(Long.MIN_VALUE, 8), 8);
            Edge.due("its fault", s.valley(), -10);
        });
        Edge.test("THE TAPE (bytes, 120 at most)", () -> {
            for (int n = 1; n <= 8; n++) {
                Edge.due("to 120 by " + n, tape(120 - n).feed(0, n), 120);
                int by = n;
                Edge.refused("to 121 by " + n, () -> tape(121 - by), s -> s.feed(0, by), -4);
                Edge.refused("full, by " + n, () -> tape(120), s -> s.feed(0, by), -4);
            }
            Edge.refused("eight more than 120", Edge::full, s -> s.feed(0, 8), -4);
        });
        Edge.test("FULL: not one byte comes", () -> {
            SunMirrors s = tape(113);
            s.feed(-1L, 8);
            Edge.due("count(6)", s.count(6), 113);
            Edge.feed(s, Edge.WHOLE.substring(113));
            Edge.due("count(6) then", s.count(6), 120);
            Edge.due("valley()", s.valley(), 1);
        });
        Edge.test("BAD; FULL: the first one told", () -> {
            for (int n : new int[] {0, 9, -1, Integer.MIN_VALUE, Integer.MAX_VALUE}) {
                Edge.refused("n " + n + ", full", () -> tape(120), s -> s.feed(0, n), -2);
            }
        });
        Edge.test("THE TAPE has place again behind a VALLEY and a FAULT", () -> {
            SunMirrors s = tape(120);
            Edge.due("valley()", s.valley(), 1);
            Edge.due("feed()", s.feed(0, 8), 8);
            Edge.due("a fault", s.valley(), -10);
            Edge.due("feed() behind it", s.feed(0, 1), 1);
        });
    }

    private static void valley() {
        Edge.promise("8 valley");
        Edge.test("VALLEYS are numbered from 0 on, 5 at most; FULL (THE TAPE stays)", () -> {
            SunMirrors s = Edge.plain(1, 1, "");
            for (int i = 0; i < 5; i++) {
                Edge.due("valley " + i, Edge.read(s, "lit q=" + i), i);
                Edge.due("it holds", s.can(0, 0, 0), 1 << i);
            }
            Edge.due("a sixth", Edge.read(s, "lit q=5"), -4);
            Edge.due("the tape stays", s.count(6), 7);
            Edge.due("the fifth holds", s.can(0, 0, 0), 16);
            Edge.refused("a sixth", Edge::full, SunMirrors::valley, -4);
        });
        Edge.test("FULL (ahead of all): of a FAULT, too", () -> {
            Edge.refused("a sixth with a fault", () -> fiveAnd("lit q"), SunMirrors::valley, -4);
            Edge.refused("a sixth of no byte", () -> fiveAnd(""), SunMirrors::valley, -4);
        });
        Edge.test("THE TAPE stays: what is fed then comes behind it", () -> {
            SunMirrors s = fiveAnd("lit q=6");
            s.valley();
            Edge.due("one byte more", s.feed('|', 1), 8);
        });
        Edge.test("THE TAPE is empty then, by a FAULT, too; the one that held holds", () -> {
            for (String text : List.of("x", "lit", "lit q=1;", "lit q=1;turn 100", "cloud 9;turn 0;lit q=2x")) {
                Edge.same("a fault of " + text, () -> {
                    SunMirrors s = someWithoutTape();
                    Edge.read(s, text);
                    return s;
                }, EdgesOfMaking::someWithoutTape);
            }
        });
        Edge.test("a FAULT takes no number", () -> {
            SunMirrors s = new SunMirrors();
            for (int i = 0; i < 6; i++) {
                Edge.due("a fault", Edge.read(s, "lit q=1|"), -18);
            }
            Edge.due("the first", Edge.read(s, "lit q=1"), 0);
        });
        Edge.test("without one there are no CLAUSES: cloud 0, turn 9, not LIT, no OWN", () -> {
            SunMirrors s = Edge.plain(1, 6, "");
            Edge.due("lit", s.can(0, 0, 0), 0);
            Edge.due("own", s.has(0, 2), 0);
            Edge.due("dark", s.has(0, 1), 255);
            Edge.due("kept", s.kept(0, 1, 0), 0);
            Edge.read(s, "lit q<8");
            Edge.plan(s, 0, "05050505");
            Edge.due("turn 9", s.judged(), -5);
            Edge.due("cloud 0", s.kept(0, 4, 1), 1);
        });
        Edge.test("the newest one holds, of the older ones nothing", () -> {
            SunMirrors s = Edge.plain(1, 6, "lit q<8;own q=1;eyes q=0;cloud 5;turn 0");
            Edge.read(s, "lit q<8");
            Edge.plan(s, 0, "05555555");
            Edge.due("no own", s.has(0, 2), 0);
            Edge.due("no eyes", s.can(0, 0, 1), 255);
            Edge.due("turn 9", s.judged(), -5);
            Edge.due("cloud 0", s.kept(5, 7, 1), 1);
        });
    }

    private static SunMirrors fiveAnd(String tape) {
        SunMirrors s = Edge.plain(1, 1, "");
        s.image();
        for (int i = 0; i < 5; i++) {
            Edge.read(s, "lit q=" + i);
        }
        Edge.feed(s, tape);
        return s;
    }

    private static SunMirrors someWithoutTape() {
        SunMirrors s = Edge.some();
        s.valley();
        return s;
    }

    private static void dueFault(String text, int fault) {
        Edge.due("the fault of " + text, Edge.fault(text), fault);
    }

    /** A text that is a VALLEY if it ends at one of these sizes, and at no other. */
    private static void dueEnds(String text, Integer... ends) {
        for (int size = 0; size <= text.length(); size++) {
            dueFault(text.substring(0, size), List.of(ends).contains(size) ? -1 : size);
        }
    }

    private static void valleyEndsTooEarly() {
        Edge.promise("8 valley");
        Edge.test("FAULT: the size, if it ends too early", () -> {
            dueEnds("lit m=1&(q<7|!d>9);turn 5", 7, 18, 25);
            dueEnds("eyes p>2|h=40", 8, 12, 13);
            dueEnds("own !(!(!q<3))", 14);
            dueEnds("lit (((((h=1)))))", 17);
            dueEnds("cloud 10;cloud 0", 7, 8, 16);
            dueEnds("turn 99", 6, 7);
        });
        Edge.test("FAULT: the size 120, if it ends too early there", () -> {
            dueFault("lit " + "q=1|".repeat(29), 120);
            dueFault("lit " + "q=1|".repeat(28) + "!!q=", 120);
            dueFault("lit " + "q=1|".repeat(28) + "(q=1", 120);
        });
        Edge.test("a VALLEY is read from THE TAPE (bytes, 120 at most)", () -> {
            dueFault(Edge.WHOLE, -1);
            Edge.due("its bytes", Edge.WHOLE.length(), 120);
            dueFault("lit " + "q=1|".repeat(28) + "q=1x", 119);
            dueFault("x" + "1".repeat(119), 0);
            SunMirrors s = Edge.plain(1, 1, "lit " + "q=0|".repeat(28) + "!q<7");
            Edge.due("the last test counts", s.can(0, 0, 0), 1 + 128);
        });
    }

    private static void valleyFaults() {
        Edge.promise("8 valley");
        Edge.test("FAULT: the place of the first byte with which no VALLEY can go on", () -> {
            dueFault("x", 0);
            dueFault("Lit q=1", 0);
            dueFault(" lit q=1", 0);
            dueFault(";lit q=1", 0);
            dueFault("lxt q=1", 1);
            dueFault("lit q=1;x", 8);
            dueFault("lit q=1;;", 8);
            dueFault("lit q=1;lxt", 9);
            dueFault("lit q=1)", 7);
            dueFault("lit (q=1))", 9);
            dueFault("lit (q=1;", 8);
            dueFault("lit q=1(q=2)", 7);
            dueFault("lit q=1!q=2", 7);
            dueFault("lit q=1&&q=2", 8);
            dueFault("lit q=1||q=2", 8);
            dueFault("lit |q=1", 4);
            dueFault("lit x=1", 4);
            dueFault("lit q!1", 5);
            dueFault("lit q<=1", 6);
            dueFault("lit q=x", 6);
            dueFault("lit 1=q", 4);
            dueFault("turn q", 5);
            dueFault("turn !1", 5);
            dueFault("cloud (1)", 6);
            dueFault("cloud 1&", 7);
            dueFault("turn 1|", 6);
        });
        Edge.test("bytes, signs over 127 and 0 among them", () -> {
            dueFault("\u0000", 0);
            dueFault("\u00ff", 0);
            dueFault("\u00ecit q=1", 0);
            dueFault("lit\u00a0q=1", 3);
            dueFault("lit \u00f1=1", 4);
            dueFault("lit q\u00bd1", 5);
            dueFault("lit q=\u00b1", 6);
            dueFault("lit q=1\u00b1", 7);
            dueFault("lit q=1\u0000", 7);
            dueFault("lit q=1\n", 7);
        });
        Edge.test("one blank ahead of each part behind the word", () -> {
            String[] words = {"lit", "eyes", "own", "cloud", "turn"};
            String[] parts = {"q=1", "q=1", "q=1", "1", "1"};
            for (int i = 0; i < words.length; i++) {
                int size = words[i].length();
                dueFault(words[i] + " " + parts[i], -1);
                dueFault(words[i] + parts[i], size);
                dueFault(words[i] + "  " + parts[i], size + 1);
                dueFault(words[i] + "\t" + parts[i], size);
                dueFault(words[i] + " " + parts[i] + " ", size + 1 + parts[i].length());
                dueFault(words[i] + " " + parts[i] + "; lit q=1", size + 2 + parts[i].length());
            }
            dueFault("lit q =1", 5);
            dueFault("lit q= 1", 6);
            dueFault("lit q=1 &q=2", 7);
            dueFault("lit q=1& q=2", 8);
            dueFault("lit ! q=1", 5);
            dueFault("lit ( q=1)", 5);
        });
        Edge.test("n 1 or 2 digits, no 0 ahead of another", () -> {
            for (String ahead : new String[] {"lit m=", "eyes p<", "own q>", "lit d=", "lit h<", "cloud ", "turn "}) {
                int size = ahead.length();
                for (String good : new String[] {"0", "1", "9", "10", "19", "90", "99"}) dueFault(ahead + good, -1);
                dueFault(ahead, size);
                dueFault(ahead + "00", size + 1);
                dueFault(ahead + "01", size + 1);
                dueFault(ahead + "09", size + 1);
                dueFault(ahead + "100", size + 2);
                dueFault(ahead + "999", size + 2);
                dueFault(ahead + "-1", size);
                dueFault(ahead + "+1", size);
                // The signs beside 0 and 9.
                dueFault(ahead + "/", size);
                dueFault(ahead + ":", size);
                dueFault(ahead + "1/", size + 1);
                dueFault(ahead + "1:", size + 1);
            }
        });
    }

    private static void valleyLimits() {
        Edge.promise("8 valley");
        Edge.test("CLAUSES, 10 at most", () -> {
            for (String clause : new String[] {"lit q=1", "eyes q=1", "own q=1", "cloud 1", "turn 1"}) {
                String ten = clause + (";" + clause).repeat(9);
                dueFault(ten, -1);
                dueFault(ten + ";", ten.length());
                if (ten.length() < 110) dueFault(ten + ";" + clause, ten.length());
                dueFault(ten.substring(0, ten.length() - clause.length()), ten.length() - clause.length());
            }
            String mixed = "lit q=1;eyes q=2;own q=3;cloud 4;turn 5;lit q=5;eyes q=6;own q=7;cloud 8;turn 9";
            dueFault(mixed, -1);
            dueFault(mixed + ";x", mixed.length());
        });
        Edge.test("the tenth CLAUSE counts", () -> {
            Edge.due("lit", Edge.plain(1, 1, "turn 1;".repeat(9) + "lit q=3").can(0, 0, 0), 8);
            Edge.due("own", Edge.plain(1, 1, "lit q=1;".repeat(9) + "own q=3").has(0, 2), 8);
            SunMirrors s = Edge.plain(1, 2, "lit q<8;".repeat(9) + "turn 0");
            Edge.plan(s, 0, "01");
            Edge.due("turn", s.judged(), 10);
        });
        Edge.test("at most 5 of ! and ( are open", () -> {
            dueFault("lit (((((q=1)))))", -1);
            dueFault("lit !!!!!q=1", -1);
            dueFault("lit !(!(!q=1))", -1);
            dueFault("lit (!(!(q=1)))", -1);
            dueFault("lit ((((((q=1))))))", 9);
            dueFault("lit !!!!!!q=1", 9);
            dueFault("lit !(!(!(q=1)))", 9);
            dueFault("lit (!(!(!q=1)))", 9);
            dueFault("lit ((((q=1|(!q=1", 13);
            dueFault("eyes q=1&((((!(q=1", 14);
        });
        Edge.test("a ( till its )", () -> {
            dueFault("lit (q=1)|(q=2)|(q=3)|(q=4)|(q=5)|(q=6)", -1);
            dueFault("lit (((((q=1)&(q=2))&(q=3))&(q=4))&(q=5))&(((((q=6)))))", -1);
            dueFault("lit (((((q=1)&((q=2", 15);
        });
        Edge.test("a ! till its F ends", () -> {
            dueFault("lit !q=1|!q=2|!q=3|!q=4|!q=5|!q=6", -1);
            dueFault("lit !!!!!q=1&!!!!!q=2", -1);
            dueFault("lit ((((!q=1&!q=2|!q=3))))", -1);
            dueFault("lit !((((q=1))))&!((((q=2))))", -1);
            dueFault("lit !!!!(q=1&!q=2", 13);
        });
        Edge.test("the open ones of one E are none of the next", () -> {
            dueFault("lit !!!!!q=1;own !!!!!q=1;eyes (((((q=1)))))", -1);
            dueFault("lit !!!!!q=1;own !!!!!!q=1", 22);
        });
        Edge.test("-10 less the FAULT", () -> {
            Edge.due("FAULT 0", Edge.read(new SunMirrors(), "x"), -10);
            Edge.due("FAULT 1", Edge.read(new SunMirrors(), "l"), -11);
            Edge.due("FAULT 120", Edge.read(new SunMirrors(), "lit " + "q=1|".repeat(29)), -130);
        });
    }
}
