/** The edges of promises 11 to 19: the PLAN and what is told of it. A test a sentence that names a boundary. */
public final class EdgesOfPlans {
    private static final int[] FAR = {Integer.MIN_VALUE, Integer.MIN_VALUE + 1, Integer.MAX_VALUE - 1, Integer.MAX_VALUE};

    public static void main(String[] args) {
        plan();
        judged();
        has();
        worth();
        best();
        bestRefusals();
        fair();
        take();
        takeRefusals();
        coarse();
        kept();
        keptRefusals();
        Edge.end();
    }

    private static void plan() {
        Edge.promise("11 plan");
        Edge.test("none at first", () -> {
            for (int q = 0; q < 8; q++) {
                Edge.due("plan(0, " + q + ", -1)", Edge.plain(1, 1, "").plan(0, q, -1), -5);
                Edge.due("of the sixth", Edge.plain(6, 1, "").plan(5, q, 0), -5);
            }
        });
        Edge.test("a PATCH (-1: none): what it was (-5: none)", () -> {
            SunMirrors s = Edge.plain(1, 6, "");
            Edge.due("0", s.plan(0, 0, 0), -5);
            Edge.due("the last one", s.plan(0, 0, 5), 0);
            Edge.due("none", s.plan(0, 0, -1), 5);
            Edge.due("none once more", s.plan(0, 0, -1), -5);
            Edge.due("0 again", s.plan(0, 0, 0), -5);
        });
        Edge.test("NONE there is no such QUARTER", () -> {
            Edge.due("0", Edge.some().plan(0, 0, 1), 0);
            Edge.due("7", Edge.some().plan(1, 7, 0), 1);
            for (int q : new int[] {-1, 8, 9, 99}) Edge.refused("quarter " + q, Edge::some, s -> s.plan(0, q, 0), -1);
            for (int q : FAR) Edge.refused("quarter " + q, Edge::some, s -> s.plan(0, q, 0), -1);
        });
        Edge.test("NONE there is no such PATCH", () -> {
            for (int p : new int[] {-2, 3, -3, 6, 99}) Edge.refused("patch " + p, Edge::some, s -> s.plan(0, 2, p), -1);
            for (int p : FAR) Edge.refused("patch " + p, Edge::some, s -> s.plan(0, 2, p), -1);
            Edge.refused("of six, 6", Edge::full, s -> s.plan(0, 0, 6), -1);
            Edge.refused("no patches, 0", () -> Edge.plain(1, 0, ""), s -> s.plan(0, 0, 0), -1);
            Edge.due("no patches, none", Edge.plain(1, 0, "").plan(0, 0, -1), -5);
        });
        Edge.test("NONE there is no such MIRROR", () -> {
            for (int m : new int[] {-1, 3, 6, 99}) {
                Edge.refused("mirror " + m, Edge::some, s -> s.plan(m, 0, 0), -1);
                Edge.refused("mirror " + m + ", none", Edge::some, s -> s.plan(m, 0, -1), -1);
            }
            for (int m : FAR) Edge.refused("mirror " + m, Edge::some, s -> s.plan(m, 0, 0), -1);
            Edge.refused("of six, 6", Edge::full, s -> s.plan(6, 0, 0), -1);
        });
    }

    private static int judged(String valley, String... rows) {
        SunMirrors s = Edge.plain(6, 6, valley);
        for (int m = 0; m < rows.length; m++) {
            Edge.plan(s, m, rows[m]);
        }
        return s.judged();
    }

    private static void judged() {
        Edge.promise("12 judged");
        Edge.test("-5: nothing is planned", () -> {
            Edge.due("no mirrors", new SunMirrors().judged(), -5);
            Edge.due("no plan", judged("lit q<8"), -5);
            Edge.due("no plan, no valley", judged(""), -5);
            Edge.due("all is planned", judged("lit q<8", "01234543", "54321012"), -5);
        });
        Edge.test("the first (QUARTER, then MIRROR)", () -> {
            Edge.due("the first of all", judged("", "0"), 0);
            Edge.due("the last of all", judged("", "", "", "", "", "", "-------0"), 75);
            Edge.due("the quarter ahead of the mirror", judged("", "-------0", "", "", "", "", "------0"), 65);
            Edge.due("at like quarters the mirror", judged("", "", "", "--5", "", "--0", "--0"), 22);
            Edge.due("mirror 5 at quarter 0", judged("", "-0", "", "", "", "", "0"), 5);
        });
        Edge.test("more than turn apart by numbers: as many are not too far", () -> {
            for (int turn = 0; turn <= 5; turn++) {
                int far = turn + 1;
                Edge.due("turn " + turn, judged("lit q<8;turn " + turn, "0" + turn + "0" + turn), -5);
                if (far <= 5) Edge.due("turn " + turn + ", one more", judged("lit q<8;turn " + turn, "0" + far), 10);
                if (far <= 5) Edge.due("turn " + turn + ", one more down", judged("lit q<8;turn " + turn, far + "0"), 10);
            }
            Edge.due("turn 9", judged("lit q<8;turn 9", "05050505"), -5);
            Edge.due("turn 99", judged("lit q<8;turn 99", "05050505"), -5);
        });
        Edge.test("turn (9 without)", () -> Edge.due("from 0 to 5", judged("lit q<8", "05050505"), -5));
        Edge.test("the last n holds", () -> {
            Edge.due("turn 5, then 0", judged("turn 5;lit q<8;turn 0", "01"), 10);
            Edge.due("turn 0, then 5", judged("turn 0;lit q<8;turn 5", "05"), -5);
        });
        Edge.test("at this QUARTER and the one ahead (both some)", () -> {
            Edge.due("none ahead", judged("lit q<8;turn 0", "0-5-0-5-"), -5);
            Edge.due("no quarter is ahead of the first", judged("lit q<8;turn 0", "5"), -5);
            Edge.due("none behind", judged("lit q<8;turn 0", "5-------"), -5);
            Edge.due("to the last quarter", judged("lit q<8;turn 0", "------01"), 70);
            Edge.due("from 0 on", judged("lit q<8;turn 0", "01"), 10);
            Edge.due("from the last one is not to the first", judged("lit q<8;turn 1", "01234555"), -5);
        });
        Edge.test("it CAN not", () -> {
            Edge.due("not lit at 7", judged("lit q<7", "00000000"), 70);
            Edge.due("lit at 7 alone", judged("lit q=7", "-------0"), -5);
            Edge.due("struck", judged("lit q<8;eyes p=5&q=0", "5"), 0);
        });
    }

    private static void has() {
        Edge.promise("13 has");
        Edge.test("what 0 HAS .. 2 OWN", () -> {
            SunMirrors s = Edge.plain(1, 1, "lit q<8;own q=7");
            Edge.plan(s, 0, "0");
            Edge.due("what 0", s.has(0, 0), 1);
            Edge.due("what 1", s.has(0, 1), 126);
            Edge.due("what 2", s.has(0, 2), 128);
            for (int what : new int[] {-1, 3, 4, 99}) Edge.refused("what " + what, Edge::some, t -> t.has(0, what), -1);
            for (int what : FAR) Edge.refused("what " + what, Edge::some, t -> t.has(0, what), -1);
        });
        Edge.test("NONE there is no such PATCH", () -> {
            for (int p : new int[] {-1, 3, 6, 99}) {
                for (int what = 0; what < 3; what++) {
                    int asked = what;
                    Edge.refused("patch " + p + ", what " + what, Edge::some, s -> s.has(p, asked), -1);
                }
            }
            for (int p : FAR) Edge.refused("patch " + p, Edge::some, s -> s.has(p, 0), -1);
            Edge.refused("of six, 6", Edge::full, s -> s.has(6, 0), -1);
            Edge.refused("no patches", () -> Edge.plain(1, 0, "lit q<8"), s -> s.has(0, 0), -1);
        });
        Edge.test("LIGHT by the PLAN: nothing planned, and the most there can be", () -> {
            SunMirrors s = new SunMirrors();
            for (int m = 0; m < 6; m++) s.mirror(4, 0, Edge.make(0, 40, 9, 0));
            s.patch(4040, 20, 20);
            Edge.read(s, "lit q<8");
            Edge.due("nothing planned", s.has(0, 0), 0);
            Edge.due("dark", s.has(0, 1), 255);
            for (int m = 0; m < 6; m++) Edge.plan(s, m, "00000000");
            Edge.due("six great ones of 9", s.has(0, 0), 6 * 8 * 18);
            Edge.due("not dark", s.has(0, 1), 0);
            Edge.due("worth", s.worth(0), 20 * 6 * 8 * 18);
        });
        Edge.test("DARK: neither OWN nor LIGHT, at the first and the last QUARTER", () -> {
            SunMirrors s = Edge.plain(1, 1, "lit q=0|q=7;own q=0|q=6");
            Edge.due("nothing planned", s.has(0, 1), 255 - 1 - 64);
            Edge.plan(s, 0, "00000000");
            Edge.due("all is planned", s.has(0, 1), 255 - 1 - 64 - 128);
        });
    }

    private static void worth() {
        Edge.promise("14 worth");
        Edge.test("what 0, 1", () -> {
            Edge.due("what 0", Edge.some().worth(0), 415);
            Edge.due("what 1", Edge.some().worth(1), 1);
            for (int what : new int[] {-1, 2, 3, 99}) {
                Edge.refused("what " + what, Edge::some, s -> s.worth(what), -1);
                Edge.refused("what " + what + " of nothing", Edge::empty, s -> s.worth(what), -1);
            }
            for (int what : FAR) Edge.refused("what " + what, Edge::some, s -> s.worth(what), -1);
        });
        Edge.test("-5: no PATCHES", () -> {
            Edge.due("no patches, no mirrors", new SunMirrors().worth(1), -5);
            Edge.due("no patches", Edge.plain(6, 0, "lit q<8").worth(1), -5);
            Edge.due("WORTH of no patches", Edge.plain(6, 0, "lit q<8").worth(0), 0);
            Edge.due("one patch, no mirrors", Edge.plain(0, 1, "lit q<8").worth(1), 0);
        });
        Edge.test("the least HAS (of several the least)", () -> {
            SunMirrors s = Edge.plain(2, 6, "lit q<8");
            Edge.due("all have nothing", s.worth(1), 0);
            Edge.plan(s, 0, "01234");
            Edge.due("the last has nothing", s.worth(1), 5);
            Edge.plan(s, 0, "012345");
            Edge.due("all have one", s.worth(1), 0);
            Edge.plan(s, 1, "0");
            Edge.due("the first has two", s.worth(1), 1);
            Edge.plan(s, 1, "01---5");
            Edge.due("2, 3, 4 have one", s.worth(1), 2);
        });
        Edge.test("WORTH times HAS: a WORTH of 0 and of 20", () -> {
            SunMirrors s = new SunMirrors();
            s.mirror(0, 0, Edge.make(0, 9, 9, 0));
            s.patch(1000, 0, 0);
            s.patch(1000, 20, 0);
            Edge.read(s, "lit q<8");
            Edge.plan(s, 0, "00000000");
            Edge.due("of 0", s.worth(0), 0);
            Edge.plan(s, 0, "11111111");
            Edge.due("of 20", s.worth(0), 20 * 72);
        });
    }

    /** Patches of these worths, all of which MIRROR 0 (SIZE 1) can throw on. */
    private static SunMirrors worths(String valley, int... worths) {
        SunMirrors s = new SunMirrors();
        s.mirror(0, 0, Edge.make(0, 9, 1, 0));
        for (int worth : worths) {
            s.patch(1000, worth, 0);
        }
        Edge.read(s, valley);
        return s;
    }

    private static void dueRow(String what, SunMirrors s, int sum, String row) {
        Edge.due(what + ", the sum", s.best(0, -1), sum);
        for (int q = 0; q < 8; q++) {
            Edge.due(what + ", at " + q, s.best(0, q), row.charAt(q) == '-' ? -5 : row.charAt(q) - '0');
        }
    }

    private static void best() {
        Edge.promise("15 best");
        Edge.test("nothing there yet", () -> {
            dueRow("no patches", worths("lit q<8"), 0, "--------");
            dueRow("no valley", Edge.plain(1, 6, ""), 0, "--------");
        });
        Edge.test("each of which it CAN: at the first and the last QUARTER", () -> {
            dueRow("lit at 0", worths("lit q=0", 5), 5, "0-------");
            dueRow("lit at 7", worths("lit q=7", 5), 5, "-------0");
            dueRow("lit always", worths("lit q<8", 5), 40, "00000000");
        });
        Edge.test("none turning too far: turn apart, and one more", () -> {
            dueRow("turn 2", worths("lit q<2;turn 2;eyes p=0&q=1;eyes p=2&q=0", 9, 1, 9), 18, "02------");
            dueRow("turn 1", worths("lit q<2;turn 1;eyes p=0&q=1;eyes p=2&q=0", 9, 1, 9), 10, "01------");
            dueRow("turn 0", worths("lit q<2;turn 0;eyes p=0&q=1;eyes p=2&q=0", 9, 1, 9), 9, "-2------");
        });
        Edge.test("over none it may turn as far as it likes", () ->
            dueRow("turn 0", worths("lit q<3;turn 0;eyes p=0&q>0;eyes p=1&q<2", 9, 9), 18, "0-1-----"));
        Edge.test("of several the first as a row", () -> {
            dueRow("all alike", worths("lit q<8", 3, 3, 3, 3, 3, 3), 24, "00000000");
            dueRow("the later is least first", worths("lit q<2;turn 1;eyes p=0&q=1;eyes p=1&q=0", 4, 4, 4), 8, "01------");
            dueRow("0 ahead of 2", worths("lit q<2;turn 1;eyes p=1&q=0;eyes p=0&q=1;eyes p=2&q=0", 4, 4, 4), 8, "01------");
        });
        Edge.test("none is ahead of 0: a WORTH of 0", () -> {
            dueRow("worth 0", worths("lit q<8", 0), 0, "--------");
            dueRow("worth 0 beside worth 1", worths("lit q<8;eyes p=1&q>0", 0, 1), 1, "1-------");
        });
        Edge.test("the greatest sum: of what can be the most", () -> {
            SunMirrors s = new SunMirrors();
            s.mirror(4, 0, Edge.make(0, 40, 9, 0));
            for (int p = 0; p < 6; p++) s.patch(4040, 20, 0);
            Edge.read(s, "lit q<8");
            dueRow("20 by 18", s, 20 * 18 * 8, "00000000");
            dueRow("the last patch alone", worths("lit q<8", 0, 0, 0, 0, 0, 20), 160, "55555555");
        });
    }

    private static void bestRefusals() {
        Edge.promise("15 best");
        Edge.test("i -1 the sum, else the PATCH at QUARTER i", () -> {
            Edge.due("-1", Edge.some().best(1, -1), 320);
            Edge.due("0", Edge.some().best(1, 0), 2);
            Edge.due("7", Edge.some().best(1, 7), 2);
            for (int i : new int[] {-2, 8, 9, -3, 99}) Edge.refused("i " + i, Edge::some, s -> s.best(1, i), -1);
            for (int i : FAR) Edge.refused("i " + i, Edge::some, s -> s.best(1, i), -1);
        });
        Edge.test("NONE there is no such MIRROR", () -> {
            Edge.due("the last", Edge.some().best(2, 0), 2);
            for (int m : new int[] {-1, 3, 6, 99}) {
                Edge.refused("mirror " + m, Edge::some, s -> s.best(m, 0), -1);
                Edge.refused("mirror " + m + ", the sum", Edge::some, s -> s.best(m, -1), -1);
            }
            for (int m : FAR) Edge.refused("mirror " + m, Edge::some, s -> s.best(m, 0), -1);
            Edge.refused("of six, 6", Edge::full, s -> s.best(6, 0), -1);
        });
    }

    private static void dueFair(String what, SunMirrors s, int pair, int least) {
        Edge.due(what + ", the pair", s.fair(0), pair);
        Edge.due(what + ", the least", s.fair(1), least);
    }

    private static void fair() {
        Edge.promise("16 fair");
        Edge.test("-5: no MIRRORS, PATCHES", () -> {
            dueFair("none of both", new SunMirrors(), -5, -5);
            dueFair("no mirrors", Edge.plain(0, 6, "lit q<8"), -5, -5);
            dueFair("no patches", Edge.plain(6, 0, "lit q<8"), -5, -5);
            dueFair("one of each", Edge.plain(1, 1, "lit q<8"), 0, 8);
            dueFair("one of each, not lit", Edge.plain(1, 1, ""), 0, 0);
        });
        Edge.test("of several the first as a row", () -> {
            dueFair("all make 0", Edge.plain(6, 6, "lit q<8"), 0, 0);
            dueFair("all make 8", Edge.plain(6, 1, "lit q<8"), 0, 8);
            SunMirrors s = Edge.plain(3, 2, "lit q<8");
            Edge.plan(s, 2, "00000000");
            dueFair("the first mirror takes the second patch", s, 1, 8);
            Edge.plan(s, 2, "11111111");
            dueFair("the first mirror takes the first patch", s, 0, 8);
        });
        Edge.test("the last MIRROR and the last PATCH can be the pair", () -> {
            SunMirrors s = Edge.plain(6, 6, "lit q<8;eyes p=5&m<5");
            for (int m = 0; m < 5; m++) Edge.plan(s, m, ("" + m).repeat(8));
            dueFair("55", s, 55, 8);
        });
        Edge.test("what 0, 1", () -> {
            Edge.due("what 0", Edge.some().fair(0), 10);
            Edge.due("what 1", Edge.some().fair(1), 5);
            for (int what : new int[] {-1, 2, 3, 99}) {
                Edge.refused("what " + what, Edge::some, s -> s.fair(what), -1);
                Edge.refused("what " + what + " of nothing", Edge::empty, s -> s.fair(what), -1);
            }
            for (int what : FAR) Edge.refused("what " + what, Edge::some, s -> s.fair(what), -1);
        });
        Edge.test("it asks, and leaves the PLAN", () -> Edge.refused("fair(0)", Edge::some, s -> s.fair(0), 10));
    }

    /** MIRRORS of these costs, each lit at as many QUARTERS as it is told. */
    private static SunMirrors costs(int... costsAndLits) {
        SunMirrors s = new SunMirrors();
        StringBuilder valley = new StringBuilder();
        for (int i = 0; i < costsAndLits.length; i += 2) {
            s.mirror(0, 0, Edge.make(costsAndLits[i], 1, 1, 0));
            valley.append(i == 0 ? "lit " : "|").append("m=").append(i / 2).append("&q<").append(costsAndLits[i + 1]);
        }
        Edge.read(s, valley.toString());
        return s;
    }

    private static void dueTake(SunMirrors s, int coin, int set, int sum, int cost) {
        Edge.due("the set for " + coin, s.take(coin, 0), set);
        Edge.due("the sum for " + coin, s.take(coin, 1), sum);
        Edge.due("the cost for " + coin, s.take(coin, 2), cost);
    }

    private static void take() {
        Edge.promise("17 take");
        Edge.test("nothing there yet", () -> {
            dueTake(new SunMirrors(), 300, 0, 0, 0);
            dueTake(Edge.plain(6, 1, ""), 300, 0, 0, 0);
        });
        Edge.test("that COST no more together: as much, and one more", () -> {
            dueTake(costs(10, 1), 10, 1, 1, 10);
            dueTake(costs(10, 1), 9, 0, 0, 0);
            dueTake(costs(10, 1, 20, 2), 30, 3, 3, 30);
            dueTake(costs(10, 1, 20, 2), 29, 2, 2, 20);
            dueTake(costs(10, 1, 20, 2), 19, 1, 1, 10);
        });
        Edge.test("so much coin (0 .. 300)", () -> {
            dueTake(costs(0, 1, 1, 8), 0, 1, 1, 0);
            dueTake(costs(99, 1, 99, 1, 99, 1, 3, 1), 300, 15, 4, 300);
            dueTake(costs(99, 1, 99, 1, 99, 1, 3, 1), 299, 11, 3, 201);
            dueTake(costs(99, 8, 99, 8, 99, 8, 99, 8, 99, 8, 99, 8), 300, 7, 24, 297);
            dueTake(costs(50, 8, 50, 8, 50, 8, 50, 8, 50, 8, 50, 8), 300, 63, 48, 300);
        });
        Edge.test("of several the least COST", () -> {
            dueTake(costs(20, 2, 10, 2), 20, 2, 2, 10);
            dueTake(costs(10, 1, 10, 1, 19, 2), 20, 4, 2, 19);
            dueTake(costs(5, 0, 10, 2), 300, 2, 2, 10);
        });
        Edge.test("then the least as bits", () -> {
            dueTake(costs(10, 2, 10, 2), 10, 1, 2, 10);
            dueTake(costs(20, 2, 10, 1, 10, 1), 20, 1, 2, 20);
            dueTake(costs(10, 1, 10, 1, 20, 2), 20, 3, 2, 20);
            dueTake(costs(0, 0, 0, 1, 0, 0), 5, 2, 1, 0);
            dueTake(costs(0, 0, 0, 0), 300, 0, 0, 0);
        });
        Edge.test("the sixth MIRROR", () -> dueTake(costs(9, 1, 9, 1, 9, 1, 9, 1, 9, 1, 9, 8), 9, 32, 8, 9));
    }

    private static void takeRefusals() {
        Edge.promise("17 take");
        Edge.test("NONE: what 0, 1, 2", () -> {
            for (int what = 0; what < 3; what++) {
                Edge.due("what " + what, Edge.some().take(100, what), new int[] {7, 20, 67}[what]);
            }
            for (int what : new int[] {-1, 3, 4, 99}) Edge.refused("what " + what, Edge::some, s -> s.take(10, what), -1);
            for (int what : FAR) Edge.refused("what " + what, Edge::some, s -> s.take(10, what), -1);
        });
        Edge.test("BAD: coin (0 .. 300)", () -> {
            for (int what = 0; what < 3; what++) {
                int asked = what;
                for (int coin : new int[] {-1, 301, -300, 1000}) {
                    Edge.refused("coin " + coin + ", " + what, Edge::some, s -> s.take(coin, asked), -2);
                }
                for (int coin : FAR) Edge.refused("coin " + coin + ", " + what, Edge::some, s -> s.take(coin, asked), -2);
            }
            Edge.refused("coin 301, no mirrors", Edge::empty, s -> s.take(301, 0), -2);
        });
        Edge.test("NONE; BAD: the first one told", () -> {
            Edge.refused("what 3, coin 301", Edge::some, s -> s.take(301, 3), -1);
            Edge.refused("what -1, coin -1", Edge::some, s -> s.take(-1, -1), -1);
        });
    }

    private static void coarse() {
        Edge.promise("18 coarse");
        Edge.test("COARSE n (1 .. 9)", () -> {
            for (int n = 1; n <= 9; n++) {
                Edge.due("coarse(" + n + ")", Edge.plain(6, 6, "lit q<8").coarse(n), 0);
            }
            for (int n : new int[] {0, 10, -1, -9, 99}) {
                Edge.refused("n " + n, Edge::some, s -> s.coarse(n), -2);
                Edge.refused("n " + n + " of nothing", Edge::empty, s -> s.coarse(n), -2);
            }
            for (int n : FAR) Edge.refused("n " + n, Edge::some, s -> s.coarse(n), -2);
        });
        Edge.test("no MIRRORS, no PATCHES, no VALLEY", () -> {
            Edge.due("no mirrors", Edge.plain(0, 6, "lit q<8").coarse(9), 0);
            Edge.due("no patches", Edge.plain(6, 0, "lit q<8").coarse(9), 63);
            Edge.due("no valley", Edge.plain(6, 6, "").coarse(1), 63);
        });
        Edge.test("a PATCH whose number is a multiple of n", () -> {
            // MIRROR m can throw on PATCH m alone.
            SunMirrors s = new SunMirrors();
            for (int m = 0; m < 6; m++) {
                s.mirror(2, 0, Edge.make(0, 9, 1, m));
                s.patch(1000, 0, 0);
            }
            Edge.read(s, "lit q<8");
            int[] bits = {0, 0b101010, 0b110110, 0b101110, 0b011110, 0b111110, 0b111110, 0b111110, 0b111110};
            for (int n = 1; n <= 9; n++) {
                Edge.due("coarse(" + n + ")", s.coarse(n), bits[n - 1]);
            }
        });
        Edge.test("at no QUARTER: one is enough, the first or the last", () -> {
            Edge.due("at 0", Edge.plain(1, 1, "lit q=0").coarse(1), 0);
            Edge.due("at 7", Edge.plain(1, 1, "lit q=7").coarse(1), 0);
            Edge.due("at none", Edge.plain(1, 1, "lit q=8").coarse(1), 1);
        });
    }

    private static void dueKept(SunMirrors s, int patch, int k, long above, long below) {
        Edge.due("kept(" + patch + ", " + k + ", 0)", s.kept(patch, k, 0), above);
        Edge.due("kept(" + patch + ", " + k + ", 1)", s.kept(patch, k, 1), below);
    }

    private static SunMirrors cloudy(String cloud, String row) {
        SunMirrors s = Edge.plain(1, 2, "lit q<8" + cloud);
        Edge.plan(s, 0, row);
        return s;
    }

    private static void kept() {
        Edge.promise("19 kept");
        Edge.test("k (0 .. 8): at 0 QUARTERS or more it is sure", () -> {
            dueKept(cloudy(";cloud 5", ""), 0, 0, 1, 1);
            dueKept(cloudy(";cloud 5", "00000000"), 0, 0, 1, 1);
            dueKept(cloudy(";cloud 10", "00000000"), 0, 0, 1, 1);
        });
        Edge.test("k (0 .. 8): at all 8", () -> {
            dueKept(cloudy(";cloud 5", "00000000"), 0, 8, 1, 256);
            dueKept(cloudy(";cloud 1", "00000000"), 0, 8, 43046721, 100000000);
            dueKept(cloudy(";cloud 9", "00000000"), 0, 8, 1, 100000000);
            dueKept(cloudy(";cloud 5", "0000000"), 0, 8, 0, 1);
        });
        Edge.test("at k or more: as many as are planned, and one more", () -> {
            dueKept(cloudy(";cloud 5", "000"), 0, 3, 1, 8);
            dueKept(cloudy(";cloud 5", "000"), 0, 4, 0, 1);
            dueKept(cloudy(";cloud 5", "000"), 0, 2, 1, 2);
            dueKept(cloudy(";cloud 5", "000"), 0, 1, 7, 8);
            dueKept(cloudy(";cloud 5", "0"), 0, 1, 1, 2);
            dueKept(cloudy(";cloud 5", "0"), 1, 1, 0, 1);
        });
        Edge.test("cloud (0 without; 10 at most)", () -> {
            dueKept(cloudy("", "00000000"), 0, 8, 1, 1);
            dueKept(cloudy(";cloud 0", "00000000"), 0, 8, 1, 1);
            dueKept(cloudy(";cloud 1", "0"), 0, 1, 9, 10);
            dueKept(cloudy(";cloud 9", "0"), 0, 1, 1, 10);
            dueKept(cloudy(";cloud 10", "0"), 0, 1, 0, 1);
            dueKept(cloudy(";cloud 11", "0"), 0, 1, 0, 1);
            dueKept(cloudy(";cloud 99", "00000000"), 0, 1, 0, 1);
        });
        Edge.test("the last n holds", () -> {
            dueKept(cloudy(";cloud 9;cloud 0", "0"), 0, 1, 1, 1);
            dueKept(cloudy(";cloud 0;cloud 9", "0"), 0, 1, 1, 10);
        });
        Edge.test("a fraction in lowest terms", () -> {
            dueKept(cloudy(";cloud 2", "0"), 0, 1, 4, 5);
            dueKept(cloudy(";cloud 4", "00"), 0, 1, 21, 25);
            dueKept(cloudy(";cloud 3", "00000000"), 0, 1, 99993439, 100000000);
            dueKept(cloudy(";cloud 5", "00000000"), 0, 4, 163, 256);
        });
        Edge.test("two MIRRORS at one QUARTER are one", () -> {
            SunMirrors s = Edge.plain(2, 1, "lit q<8;cloud 5");
            Edge.plan(s, 0, "0");
            Edge.plan(s, 1, "0");
            dueKept(s, 0, 1, 1, 2);
            dueKept(s, 0, 2, 0, 1);
        });
    }

    private static void keptRefusals() {
        Edge.promise("19 kept");
        Edge.test("NO: k (0 .. 8)", () -> {
            for (int k : new int[] {-1, 9, 10, -8, 99}) {
                Edge.refused("k " + k, Edge::some, s -> s.kept(0, k, 0), SunMirrors.NO);
                Edge.refused("k " + k, Edge::some, s -> s.kept(0, k, 1), SunMirrors.NO);
            }
            for (int k : FAR) Edge.refused("k " + k, Edge::some, s -> s.kept(0, k, 0), SunMirrors.NO);
        });
        Edge.test("NO: part 0, 1", () -> {
            for (int part : new int[] {-1, 2, 3, 99}) Edge.refused("part " + part, Edge::some, s -> s.kept(0, 1, part), SunMirrors.NO);
            for (int part : FAR) Edge.refused("part " + part, Edge::some, s -> s.kept(0, 1, part), SunMirrors.NO);
        });
        Edge.test("NO: the PATCH", () -> {
            Edge.due("the last", Edge.some().kept(2, 0, 0), 1);
            for (int p : new int[] {-1, 3, 6, 99}) Edge.refused("patch " + p, Edge::some, s -> s.kept(p, 0, 0), SunMirrors.NO);
            for (int p : FAR) Edge.refused("patch " + p, Edge::some, s -> s.kept(p, 0, 0), SunMirrors.NO);
            Edge.refused("of six, 6", Edge::full, s -> s.kept(6, 0, 0), SunMirrors.NO);
        });
        Edge.test("NO = Long.MIN_VALUE", () -> Edge.due("NO", SunMirrors.NO, Long.MIN_VALUE));
    }
}
