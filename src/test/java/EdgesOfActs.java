/** The edges of promises 26 to 31: ACTS, THE TRACE, KINDS, THE IMAGE, what is counted. A test a sentence that names a boundary. */
public final class EdgesOfActs {
    private static final int LEAST_INT = Integer.MIN_VALUE, GREATEST_INT = Integer.MAX_VALUE;
    private static final int[] FAR = {LEAST_INT, LEAST_INT + 1, GREATEST_INT - 1, GREATEST_INT};

    public static void main(String[] args) {
        actWraps();
        actNumbers();
        actRefusals();
        trace();
        as();
        image();
        undo();
        undoOfAll();
        count();
        Edge.end();
    }

    /** MIRROR 5 of a KIND with a v; there are five MIRRORS ahead of it. */
    private static SunMirrors fifth(int kind, int v) {
        SunMirrors s = Edge.plain(5, 0, "");
        s.mirror(kind, 0, Edge.make(0, 1, 1, v));
        return s;
    }

    private static void dueAct(int kind, int v, int act, int x, int want) {
        SunMirrors s = fifth(kind, v);
        Edge.due("act " + act + " of kind " + kind + ", v " + v + ", x " + x, s.act(5, act, x), want);
    }

    private static void actWraps() {
        Edge.promise("26 act");
        Edge.test("ints, wrapping: 1 casts: x + i", () -> {
            dueAct(0, 9, 0, GREATEST_INT - 5, GREATEST_INT);
            dueAct(0, 9, 0, GREATEST_INT - 4, LEAST_INT);
            dueAct(0, 9, 0, GREATEST_INT, LEAST_INT + 4);
            dueAct(0, 9, 0, LEAST_INT, LEAST_INT + 5);
            dueAct(0, 9, 0, -5, 0);
        });
        Edge.test("ints, wrapping: 2 turns: casts(x) - v", () -> {
            dueAct(0, 9, 1, LEAST_INT + 4, LEAST_INT);
            dueAct(0, 9, 1, LEAST_INT + 3, GREATEST_INT);
            dueAct(0, 9, 1, LEAST_INT, GREATEST_INT - 3);
            dueAct(0, 9, 1, GREATEST_INT, GREATEST_INT - 4);
            dueAct(0, 0, 1, GREATEST_INT, LEAST_INT + 4);
        });
        Edge.test("ints, wrapping: 3 tells: turns(x) * 2", () -> {
            dueAct(0, 5, 2, 1 << 30, LEAST_INT);
            dueAct(0, 5, 2, (1 << 30) - 1, GREATEST_INT - 1);
            dueAct(0, 5, 2, -(1 << 30), LEAST_INT);
            dueAct(0, 5, 2, -(1 << 30) - 1, GREATEST_INT - 1);
            dueAct(0, 5, 2, LEAST_INT, 0);
            dueAct(0, 5, 2, GREATEST_INT, -2);
        });
        Edge.test("ints, wrapping: 11 casts: super.casts(x * 3)", () -> {
            dueAct(1, 0, 0, 715827880, 2147483645);
            dueAct(1, 0, 0, 715827881, LEAST_INT);
            dueAct(1, 0, 0, 715827882, LEAST_INT + 3);
            dueAct(1, 0, 0, GREATEST_INT, LEAST_INT + 2);
            dueAct(1, 0, 0, LEAST_INT, LEAST_INT + 5);
            dueAct(1, 0, 0, -715827882, LEAST_INT + 7);
            dueAct(1, 0, 0, -715827883, LEAST_INT + 4);
        });
        Edge.test("ints, wrapping: 21 turns: -super.turns(x)", () -> {
            dueAct(2, 5, 1, LEAST_INT, LEAST_INT);
            dueAct(2, 5, 1, LEAST_INT + 1, GREATEST_INT);
            dueAct(2, 5, 1, GREATEST_INT, LEAST_INT + 1);
            dueAct(2, 5, 1, 0, 0);
            dueAct(2, 9, 1, LEAST_INT + 4, LEAST_INT);
        });
        Edge.test("ints, wrapping: 31 tells: super.tells(x) ^ 7", () -> {
            dueAct(3, 5, 2, GREATEST_INT, (GREATEST_INT * 3 * 2) ^ 7);
            dueAct(3, 5, 2, LEAST_INT, 7);
            dueAct(3, 5, 2, 1 << 30, LEAST_INT + 7);
            dueAct(3, 5, 2, -1, -6 ^ 7);
        });
        Edge.test("ints, wrapping: 41 tells: super.tells(x - 1) + casts(2)", () -> {
            // x - 1 wraps to the greatest int: 3 times that is 2^31 - 3, and twice that is -6; casts(2) is 11.
            dueAct(4, 5, 2, LEAST_INT, -6 + 11);
            // 6 times (x - 1) is 2^31 - 2, the greatest even int; with 11 more it wraps.
            dueAct(4, 5, 2, 357913942, LEAST_INT + 9);
            dueAct(4, 5, 2, 1, 11);
            dueAct(4, 5, 2, GREATEST_INT, 6 * (GREATEST_INT - 1) + 11);
        });
        Edge.test("ints, wrapping: 51 casts: super.casts(x) ^ i", () -> {
            dueAct(5, 0, 0, GREATEST_INT - 5, GREATEST_INT ^ 5);
            dueAct(5, 0, 0, GREATEST_INT - 4, LEAST_INT ^ 5);
            dueAct(5, 0, 0, LEAST_INT, (LEAST_INT + 5) ^ 5);
            dueAct(5, 0, 0, -5, 5);
        });
        Edge.test("ints, wrapping: 61 turns: super.turns(x) + v", () -> {
            // -(x + 5 - 9) is the greatest int for x = LEAST + 5; with 9 more it wraps.
            dueAct(6, 9, 1, LEAST_INT + 5, LEAST_INT + 8);
            dueAct(6, 9, 1, LEAST_INT + 14, GREATEST_INT);
            dueAct(6, 9, 1, LEAST_INT + 13, LEAST_INT);
            dueAct(6, 0, 1, LEAST_INT - 5, LEAST_INT);
        });
    }

    private static void actNumbers() {
        Edge.promise("26 act");
        Edge.test("i its number: 0 and 5", () -> {
            SunMirrors s = Edge.plain(6, 0, "");
            for (int m = 0; m < 6; m++) {
                Edge.due("casts of " + m, s.act(m, 0, 0), m);
            }
        });
        Edge.test("each has a number v (0 .. 9)", () -> {
            dueAct(0, 0, 1, 0, 5);
            dueAct(0, 9, 1, 0, -4);
            dueAct(6, 0, 1, 0, -5);
            dueAct(6, 9, 1, 0, 4 + 9);
        });
        Edge.test("the body of its KIND, or, if that has none, of the next KIND above that has one", () -> {
            int[][] bodies = {{1, 2, 3}, {11, 2, 3}, {1, 21, 3}, {11, 2, 31}, {11, 2, 41}, {51, 21, 3}, {1, 61, 3}};
            for (int kind = 0; kind <= 6; kind++) {
                for (int act = 0; act <= 2; act++) {
                    SunMirrors s = fifth(kind, 3);
                    s.act(5, act, 1);
                    Edge.due("the first body of act " + act + " of kind " + kind, s.trace(0), bodies[kind][act]);
                }
            }
        });
        Edge.test("an ACT changes nothing but THE TRACE", () -> {
            Edge.same("act", () -> {
                SunMirrors s = Edge.some();
                s.act(2, 2, LEAST_INT);
                s.act(1, 2, 5);
                return s;
            }, Edge::some);
        });
    }

    private static void noAct(int mirror, int act) {
        SunMirrors s = Edge.some();
        String call = "act(" + mirror + ", " + act + ", 5)";
        Edge.due(call, s.act(mirror, act, 5), 0);
        Edge.due("count(7) behind " + call, s.count(7), 0);
        for (int i = 0; i < 8; i++) {
            Edge.due("trace(" + i + ") behind " + call, s.trace(i), -1);
        }
        Edge.same(call + ", and an act", () -> {
            SunMirrors t = Edge.some();
            t.act(mirror, act, 5);
            t.act(1, 2, 5);
            return t;
        }, Edge::some);
    }

    private static void actRefusals() {
        Edge.promise("26 act");
        Edge.test("0, and no TRACE then: no such MIRROR", () -> {
            for (int m : new int[] {-1, 3, 6, 99}) noAct(m, 2);
            for (int m : FAR) noAct(m, 0);
            Edge.due("of six, 6", Edge.full().act(6, 0, 5), 0);
            Edge.due("of six, 5", Edge.full().act(5, 0, 5), 20);
            Edge.due("of none, 0", new SunMirrors().act(0, 0, 5), 0);
        });
        Edge.test("0, and no TRACE then: no such ACT (0 casts, 1 turns, 2 tells)", () -> {
            for (int act : new int[] {-1, 3, 4, 99}) noAct(0, act);
            for (int act : FAR) noAct(0, act);
        });
        Edge.test("0, and no TRACE then: neither MIRROR nor ACT", () -> noAct(3, 3));
    }

    private static void trace() {
        Edge.promise("27 trace");
        Edge.test("nothing there yet", () -> Edge.refused("trace(0)", () -> Edge.plain(6, 6, ""), s -> s.trace(0), -1));
        Edge.test("the numbers of the bodies, as they began: the first and the last of the longest", () -> {
            int[] bodies = {41, 3, 2, 11, 1, 11, 1};
            for (int i = 0; i < bodies.length; i++) {
                Edge.due("trace(" + i + ")", Edge.some().trace(i), bodies[i]);
            }
            Edge.refused("trace(7)", Edge::some, s -> s.trace(7), -1);
        });
        Edge.test("of one body", () -> {
            SunMirrors s = Edge.plain(1, 0, "");
            s.act(0, 0, 0);
            Edge.due("trace(0)", s.trace(0), 1);
            Edge.due("trace(1)", s.trace(1), -1);
        });
        Edge.test("NONE there is no such i (the first 20 are kept)", () -> {
            for (int i : new int[] {-1, -7, 8, 19, 20, 21, 99}) Edge.refused("trace(" + i + ")", Edge::some, s -> s.trace(i), -1);
            for (int i : FAR) Edge.refused("trace(" + i + ")", Edge::some, s -> s.trace(i), -1);
        });
        Edge.test("in the latest act(): a shorter one leaves nothing of a longer one", () -> {
            SunMirrors s = Edge.some();
            s.act(0, 1, 0);
            int[] bodies = {2, 1, -1, -1, -1, -1, -1, -1};
            for (int i = 0; i < bodies.length; i++) {
                Edge.due("trace(" + i + ")", s.trace(i), bodies[i]);
            }
            Edge.due("count(7)", s.count(7), 2);
        });
    }

    private static void as() {
        Edge.promise("28 as");
        Edge.test("a KIND k (0 .. 6), or one under that; -6: it is of another KIND", () -> {
            String[] under = {"0", "01", "02", "013", "014", "025", "026"};
            for (int kind = 0; kind <= 6; kind++) {
                for (int k = 0; k <= 6; k++) {
                    Edge.due("kind " + kind + " as " + k, fifth(kind, 9).as(5, k), under[kind].indexOf('0' + k) >= 0 ? 9 : -6);
                }
            }
        });
        Edge.test("its v (0 .. 9)", () -> {
            for (int v = 0; v <= 9; v++) {
                Edge.due("v " + v, fifth(6, v).as(5, 2), v);
            }
        });
        Edge.test("NONE: k", () -> {
            for (int k : new int[] {-1, 7, 8, -6, 99}) {
                Edge.refused("k " + k, Edge::some, s -> s.as(0, k), -1);
                Edge.refused("k " + k + " of a passing one", Edge::some, s -> s.as(2, k), -1);
            }
            for (int k : FAR) Edge.refused("k " + k, Edge::some, s -> s.as(0, k), -1);
        });
        Edge.test("NONE: mirror", () -> {
            Edge.due("the last", Edge.some().as(2, 5), 2);
            for (int m : new int[] {-1, 3, 6, 99}) Edge.refused("mirror " + m, Edge::some, s -> s.as(m, 0), -1);
            for (int m : FAR) Edge.refused("mirror " + m, Edge::some, s -> s.as(m, 0), -1);
            Edge.refused("of six, 6", Edge::full, s -> s.as(6, 0), -1);
            Edge.refused("both", Edge::some, s -> s.as(3, 7), -1);
        });
        Edge.test("-6 changes nothing", () -> Edge.refused("as(0, 1)", Edge::some, s -> s.as(0, 1), -6));
    }

    private static void image() {
        Edge.promise("29 image");
        Edge.test("how many MIRRORS there are: 0 .. 6", () -> {
            for (int mirrors = 0; mirrors <= 6; mirrors++) {
                Edge.due("image() of " + mirrors, Edge.plain(mirrors, 0, "").image(), mirrors);
            }
        });
        Edge.test("to take it changes nothing but THE IMAGE", () -> {
            SunMirrors s = Edge.full();
            Edge.due("image()", s.image(), 6);
            Edge.due("undo()", s.undo(), 6);
            for (int what = 0; what < 8; what++) {
                Edge.due("count(" + what + ")", s.count(what), Edge.full().count(what));
            }
        });
        Edge.test("of several the newest", () -> {
            SunMirrors s = new SunMirrors();
            for (int mirrors = 1; mirrors <= 6; mirrors++) {
                s.image();
                s.mirror(0, 0, Edge.LEAST);
            }
            Edge.due("undo()", s.undo(), 5);
            Edge.due("undo() once more", s.undo(), 5);
        });
    }

    private static void undo() {
        Edge.promise("30 undo");
        Edge.test("STATE: there is none", () -> {
            Edge.refused("of nothing", Edge::empty, SunMirrors::undo, -3);
            Edge.refused("of something", EdgesOfActs::someWithoutImage, SunMirrors::undo, -3);
        });
        Edge.test("an IMAGE of nothing is one", () -> {
            SunMirrors s = new SunMirrors();
            s.image();
            s.mirror(0, 0, Edge.LEAST);
            s.patch(0, 0, 0);
            Edge.due("undo()", s.undo(), 0);
            Edge.due("no mirror", s.of(0, 0), -1);
            Edge.due("no patch", s.is(0, 0), -1);
        });
        Edge.test("all is as THE IMAGE, which stays: undo() once more", () -> {
            SunMirrors s = Edge.some();
            Edge.due("undo()", s.undo(), 1);
            s.patch(0, 0, 0);
            s.mirror(0, 0, Edge.LEAST);
            Edge.due("undo() once more", s.undo(), 1);
            Edge.due("count(1)", s.count(1), 1);
        });
        Edge.test("but THE TRACE", () -> {
            SunMirrors s = Edge.some();
            s.undo();
            Edge.due("count(7)", s.count(7), 7);
            Edge.due("trace(6)", s.trace(6), 1);
        });
    }

    private static SunMirrors someWithoutImage() {
        SunMirrors s = Edge.plain(2, 3, "lit q<8;turn 1");
        Edge.plan(s, 1, "0120");
        s.vote(12);
        s.day();
        Edge.feed(s, "lit q=3");
        return s;
    }

    private static void undoOfAll() {
        Edge.promise("30 undo");
        Edge.test("all is as THE IMAGE: of what is full there was an empty one", () -> {
            SunMirrors s = Edge.full();
            Edge.due("undo()", s.undo(), 0);
            for (int what = 0; what < 7; what++) {
                Edge.due("count(" + what + ")", s.count(what), 0);
            }
            Edge.due("mirror()", s.mirror(0, 0, Edge.LEAST), 0);
            Edge.due("patch()", s.patch(4040, 0, 0), 0);
            Edge.due("wall()", s.wall(0, 1, 1), 0);
            Edge.due("feed()", s.feed(0, 8), 8);
            Edge.due("no clauses", s.can(0, 0, 0), 0);
            Edge.due("valley()", s.valley(), -10);
            Edge.due("no plan", s.plan(0, 0, 0), -5);
            Edge.due("vote()", s.vote(0), 1);
            Edge.due("day()", s.day(), 1);
        });
        Edge.test("all is as THE IMAGE: of what was full all is there again", () ->
            Edge.same("undo() of a full one", () -> {
                SunMirrors t = Edge.full();
                t.image();
                t.clear();
                t.plan(4, 0, -1);
                t.plan(0, 0, 0);
                t.undo();
                return t;
            }, () -> {
                SunMirrors t = Edge.full();
                t.image();
                return t;
            }));
        Edge.test("all is as THE IMAGE: PLAN, DAY, SNOW, VOTES, THE TAPE, the VALLEY that holds", () ->
            Edge.same("undo()", () -> {
                SunMirrors s = someWithoutImage();
                s.image();
                s.mirror(5, 2020, Edge.GREATEST);
                s.patch(3030, 20, 20);
                s.wall(500, 540, 40);
                s.valley();
                Edge.read(s, "lit q=5;own q=1;cloud 5");
                Edge.feed(s, "x");
                Edge.plan(s, 0, "00000000");
                Edge.plan(s, 1, "--------");
                s.day();
                s.clear();
                s.vote(3210);
                s.undo();
                return s;
            }, () -> {
                SunMirrors s = someWithoutImage();
                s.image();
                return s;
            }));
        Edge.test("a PATCH that came since the first row is gone: STATE no more", () -> {
            SunMirrors s = Edge.plain(1, 2, "");
            s.vote(10);
            s.image();
            s.patch(0, 0, 0);
            Edge.due("vote()", s.vote(1), -3);
            s.undo();
            Edge.due("vote() behind undo()", s.vote(1), 2);
        });
        Edge.test("a PATCH that came since the first row is in THE IMAGE: STATE again", () -> {
            SunMirrors s = Edge.late();
            s.image();
            s.clear();
            Edge.due("vote()", s.vote(3210), 1);
            s.undo();
            Edge.due("vote() behind undo()", s.vote(3210), -3);
            Edge.due("holds(0)", s.holds(0), -3);
            Edge.due("clear()", s.clear(), 3);
        });
    }

    private static void count() {
        Edge.promise("31 count");
        Edge.test("what 0 .. 7; NONE", () -> {
            for (int what : new int[] {-1, 8, 9, -7, 99}) Edge.refused("what " + what, Edge::some, s -> s.count(what), -1);
            for (int what : FAR) Edge.refused("what " + what, Edge::some, s -> s.count(what), -1);
        });
        Edge.test("nothing there yet", () -> {
            for (int what = 0; what < 8; what++) {
                int asked = what;
                Edge.refused("count(" + what + ")", Edge::empty, s -> s.count(asked), 0);
            }
        });
        Edge.test("full", () -> {
            int[] counts = {6, 6, 8, 5, 89, 5, 120, 7};
            for (int what = 0; what < 8; what++) {
                Edge.due("count(" + what + ")", Edge.full().count(what), counts[what]);
            }
        });
        Edge.test("bodies that ran in the latest act() (all of them): 1 .. 7", () -> {
            int[][] bodies = {{1, 2, 3}, {2, 3, 4}, {1, 3, 4}, {2, 3, 5}, {2, 3, 7}, {2, 4, 5}, {1, 4, 5}};
            for (int kind = 0; kind <= 6; kind++) {
                for (int act = 0; act <= 2; act++) {
                    SunMirrors s = fifth(kind, 3);
                    s.act(5, act, 1);
                    Edge.due("bodies of act " + act + " of kind " + kind, s.count(7), bodies[kind][act]);
                }
            }
        });
    }
}
