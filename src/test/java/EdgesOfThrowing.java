/** The edges of promises 9, 10 and 22: THE WAY, LIT, EYES, MAY, CAN, PASSED ON. A test a sentence that names a boundary. */
public final class EdgesOfThrowing {
    private static final int[] FAR = {Integer.MIN_VALUE, Integer.MIN_VALUE + 1, Integer.MAX_VALUE - 1, Integer.MAX_VALUE};

    public static void main(String[] args) {
        freeWays();
        freeHeights();
        freeRefusals();
        canLit();
        canTests();
        canMay();
        canRefusals();
        passedWays();
        passedRefusals();
        Edge.end();
    }

    /** A MIRROR at a point with a HEIGHT, a PATCH at a point, a WALL from, to, with a HEIGHT: is THE WAY free? */
    private static void dueFree(int at, int height, int patch, int from, int to, int wallHeight, int want) {
        SunMirrors s = new SunMirrors();
        s.mirror(0, at, Edge.make(0, height, 1, 0));
        s.patch(patch, 0, 0);
        s.wall(from, to, wallHeight);
        String call = "free from " + at + ", " + height + " to " + patch + ", wall " + from + ", " + to + ", " + wallHeight;
        Edge.due(call, s.free(0, 0), want);
        SunMirrors turned = new SunMirrors();
        turned.mirror(0, at, Edge.make(0, height, 1, 0));
        turned.patch(patch, 0, 0);
        turned.wall(to, from, wallHeight);
        Edge.due(call + " turned", turned.free(0, 0), want);
    }

    private static void freeWays() {
        Edge.promise("9 free");
        Edge.test("no WALL yet", () -> Edge.due("free(0, 0)", Edge.plain(1, 1, "").free(0, 0), 1));
        Edge.test("meet in one point (their ends, too): an end of the WALL on THE WAY", () -> {
            dueFree(2000, 9, 2040, 2020, 4020, 40, 0);
            dueFree(2000, 9, 2040, 2020, 20, 40, 0);
            dueFree(2000, 9, 2040, 2120, 4020, 40, 1);
            dueFree(2000, 9, 2040, 1920, 20, 40, 1);
            dueFree(0, 9, 4040, 2020, 4000, 40, 0);
            dueFree(0, 9, 4040, 2120, 4000, 40, 1);
            dueFree(0, 9, 4040, 2021, 40, 40, 1);
        });
        Edge.test("meet in one point (their ends, too): the PATCH on the WALL", () -> {
            dueFree(0, 9, 2020, 2000, 2040, 1, 0);
            dueFree(0, 9, 2020, 2100, 2140, 40, 1);
            dueFree(0, 9, 2020, 1040, 4000, 1, 1);
            dueFree(0, 9, 2020, 40, 4000, 1, 0);
        });
        Edge.test("meet in one point (their ends, too): the MIRROR on the WALL", () -> {
            dueFree(2020, 9, 4040, 2000, 2040, 10, 0);
            dueFree(2020, 9, 4040, 1900, 1940, 40, 1);
            dueFree(2020, 40, 4040, 40, 4000, 40, 1);
            dueFree(2020, 39, 4040, 40, 4000, 40, 0);
        });
        Edge.test("meet in one point (their ends, too): an end of each", () -> {
            dueFree(2020, 9, 4040, 2020, 2040, 10, 0);
            dueFree(2020, 9, 4040, 2020, 0, 10, 1);
            dueFree(2020, 9, 4040, 4040, 4000, 1, 0);
            dueFree(2020, 9, 4040, 4039, 4000, 40, 1);
        });
        Edge.test("never, if they are parallel", () -> {
            dueFree(0, 9, 4000, 1, 4001, 40, 1);
            dueFree(0, 9, 4000, 1000, 3000, 40, 1);
            dueFree(0, 9, 4000, 0, 4000, 40, 1);
            dueFree(0, 9, 4040, 1010, 2020, 40, 1);
            dueFree(0, 9, 40, 10, 30, 40, 1);
            // In one point, the end of both, but parallel all the same.
            dueFree(0, 9, 2000, 2000, 4000, 40, 1);
            dueFree(2000, 9, 4000, 0, 2000, 40, 1);
            dueFree(0, 9, 2020, 2020, 4040, 40, 1);
            dueFree(1000, 9, 4000, 1010, 4011, 40, 1);
        });
        Edge.test("never, if they are parallel: nearly so they meet", () -> {
            // The cross of both ways is 1, the least there can be, or -1.
            dueFree(0, 1, 100, 100, 101, 1, 0);
            dueFree(0, 1, 4039, 101, 4039, 1, 0);
            dueFree(4039, 39, 0, 101, 4039, 40, 0);
            dueFree(0, 40, 4039, 1, 3939, 40, 1);
        });
        Edge.test("never, if one of both is a point", () -> {
            dueFree(0, 9, 4000, 2000, 2000, 40, 1);
            dueFree(0, 9, 4000, 4000, 4000, 40, 1);
            dueFree(0, 9, 4000, 0, 0, 40, 1);
            dueFree(2020, 9, 2020, 2000, 2040, 40, 1);
            dueFree(2020, 9, 2020, 2020, 4040, 40, 1);
            dueFree(2020, 9, 2020, 2020, 2020, 40, 1);
        });
        Edge.test("no WALL is BETWEEN: of several a later one, too", () -> {
            for (int low = 0; low < 8; low++) {
                SunMirrors s = new SunMirrors();
                s.mirror(0, 0, Edge.make(0, 20, 1, 0));
                s.patch(4000, 0, 0);
                for (int wall = 0; wall < 8; wall++) {
                    s.wall(2000, 2040, wall == low ? 11 : 10);
                }
                Edge.due("wall " + low, s.free(0, 0), 0);
            }
        });
    }

    private static void freeHeights() {
        Edge.promise("9 free");
        Edge.test("THE WAY there is lower than the WALL: as high is not lower", () -> {
            dueFree(0, 40, 4000, 2000, 2040, 20, 1);
            dueFree(0, 40, 4000, 2000, 2040, 21, 0);
            dueFree(0, 40, 4040, 40, 4000, 20, 1);
            dueFree(0, 40, 4040, 40, 4000, 21, 0);
            dueFree(4040, 40, 0, 40, 4000, 20, 1);
            dueFree(4040, 40, 0, 40, 4000, 21, 0);
            dueFree(40, 40, 4000, 0, 4040, 20, 1);
            dueFree(40, 40, 4000, 0, 4040, 21, 0);
        });
        Edge.test("evenly from its HEIGHT down to 0: at its ends", () -> {
            dueFree(0, 40, 4000, 0, 40, 40, 1);
            dueFree(0, 39, 4000, 0, 40, 40, 0);
            dueFree(0, 1, 4000, 0, 40, 1, 1);
            dueFree(0, 1, 4000, 0, 40, 2, 0);
            dueFree(0, 40, 4000, 100, 140, 39, 1);
            dueFree(0, 40, 4000, 100, 140, 40, 0);
            dueFree(0, 40, 4000, 3900, 3940, 1, 1);
            dueFree(0, 40, 4000, 3900, 3940, 2, 0);
            dueFree(0, 39, 4000, 3900, 3940, 1, 0);
            dueFree(0, 40, 4000, 4000, 4040, 1, 0);
            dueFree(0, 1, 100, 100, 140, 1, 0);
        });
        Edge.test("exactly: as high at a third, a seventh, an eleventh of THE WAY", () -> {
            dueFree(0, 39, 3000, 1000, 1040, 26, 1);
            dueFree(0, 39, 3000, 1000, 1040, 27, 0);
            dueFree(0, 39, 3000, 2000, 2040, 13, 1);
            dueFree(0, 38, 3000, 2000, 2040, 13, 0);
            dueFree(0, 35, 700, 100, 140, 30, 1);
            dueFree(0, 34, 700, 100, 140, 30, 0);
            dueFree(0, 33, 1100, 600, 640, 15, 1);
            dueFree(0, 33, 1100, 600, 640, 16, 0);
            dueFree(0, 32, 1100, 600, 640, 15, 0);
        });
        Edge.test("exactly: at a point that is none of the ground's", () -> {
            // They meet at 13 1/3, 13 1/3: two thirds of the way are left.
            dueFree(0, 30, 4040, 20, 4000, 20, 1);
            dueFree(0, 30, 4040, 20, 4000, 21, 0);
            // They meet at 20/3 of 20, a third of the way.
            dueFree(0, 30, 2020, 10, 2000, 20, 1);
            dueFree(0, 29, 2020, 10, 2000, 20, 0);
            // They meet at 39/79 of the way: 40/79 of 40 is between 20 and 21.
            dueFree(0, 40, 4040, 39, 4000, 20, 1);
            dueFree(0, 40, 4040, 39, 4000, 21, 0);
            // They meet at 40/79 of the way: 39/79 of 40 is between 19 and 20.
            dueFree(0, 40, 4040, 40, 4001, 19, 1);
            dueFree(0, 40, 4040, 40, 4001, 20, 0);
        });
    }

    private static void freeRefusals() {
        Edge.promise("9 free");
        Edge.test("NONE there is no such MIRROR", () -> {
            Edge.due("the last", Edge.some().free(2, 0), 1);
            for (int m : new int[] {-1, 3, 5, 6, 99}) Edge.refused("mirror " + m, Edge::some, s -> s.free(m, 0), -1);
            for (int m : FAR) Edge.refused("mirror " + m, Edge::some, s -> s.free(m, 0), -1);
            Edge.refused("of six, 6", Edge::full, s -> s.free(6, 0), -1);
        });
        Edge.test("NONE there is no such PATCH", () -> {
            Edge.due("the last", Edge.some().free(0, 2), 1);
            for (int p : new int[] {-1, 3, 5, 6, 99}) Edge.refused("patch " + p, Edge::some, s -> s.free(0, p), -1);
            for (int p : FAR) Edge.refused("patch " + p, Edge::some, s -> s.free(0, p), -1);
            Edge.refused("of six, 6", Edge::full, s -> s.free(0, 6), -1);
            Edge.refused("both", Edge::full, s -> s.free(6, -1), -1);
        });
    }

    private static int lit(String text) {
        return Edge.plain(1, 1, text).can(0, 0, 0);
    }

    private static void canLit() {
        Edge.promise("10 can");
        Edge.test("LIT without a VALLEY, without lit", () -> {
            Edge.due("no valley", lit(""), 0);
            Edge.due("no lit", lit("eyes q=1;own q<8;cloud 1"), 0);
        });
        Edge.test("QUARTERS 0 .. 7, as bits", () -> {
            for (int q = 0; q <= 7; q++) {
                Edge.due("lit q=" + q, lit("lit q=" + q), 1 << q);
            }
            Edge.due("lit q=8", lit("lit q=8"), 0);
            Edge.due("lit q>7", lit("lit q>7"), 0);
            Edge.due("lit q>6", lit("lit q>6"), 128);
            Edge.due("lit q<0", lit("lit q<0"), 0);
            Edge.due("lit q<1", lit("lit q<1"), 1);
            Edge.due("lit q<7", lit("lit q<7"), 127);
            Edge.due("lit q<8", lit("lit q<8"), 255);
            Edge.due("lit q<99", lit("lit q<99"), 255);
        });
        Edge.test("one of < = >: as great is neither less nor more", () -> {
            Edge.due("lit q<4", lit("lit q<4"), 15);
            Edge.due("lit q=4", lit("lit q=4"), 16);
            Edge.due("lit q>4", lit("lit q>4"), 224);
        });
        Edge.test("if E of some lit holds: of ten the first and the last", () -> {
            Edge.due("the first", lit("lit q=2" + ";lit q=9".repeat(9)), 4);
            Edge.due("the last", lit("lit q=9;".repeat(9) + "lit q=2"), 4);
        });
        Edge.test("p 99 in lit", () -> {
            Edge.due("p=99", lit("lit p=99"), 255);
            Edge.due("p<99", lit("lit p<99"), 0);
            Edge.due("p>98", lit("lit p>98"), 255);
            Edge.due("p>99", lit("lit p>99"), 0);
            Edge.due("p=0", lit("lit p=0"), 0);
            Edge.due("CAN asks with p 99, too", Edge.plain(1, 1, "lit p=0").can(0, 0, 1), 0);
        });
        Edge.test("m 99, h 0 in own", () -> {
            for (String held : new String[] {"m=99", "m>98", "h=0", "h<1", "m=99&h=0"}) {
                Edge.due("own " + held, Edge.plain(1, 1, "own " + held).has(0, 2), 255);
            }
            for (String not : new String[] {"m<99", "m>99", "m=0", "h>0", "h<0", "h=9"}) {
                Edge.due("own " + not, Edge.plain(1, 1, "own " + not).has(0, 2), 0);
            }
        });
    }

    private static void canTests() {
        Edge.promise("10 can");
        Edge.test("a number: 0 and 99, of each TEST", () -> {
            // m is 0, p 99, q each of 0 .. 7, d 0, h 9.
            int[][] bits = {{0, 255, 0, 255, 0, 0}, {0, 0, 255, 0, 255, 0}, {0, 1, 254, 255, 0, 0}, {0, 255, 0, 255, 0, 0},
                {0, 0, 255, 255, 0, 0}};
            String[] signs = {"<0", "=0", ">0", "<99", "=99", ">99"};
            for (int test = 0; test < 5; test++) {
                for (int sign = 0; sign < 6; sign++) {
                    String text = "lit " + "mpqdh".charAt(test) + signs[sign];
                    Edge.due(text, lit(text), bits[test][sign]);
                }
            }
        });
        Edge.test("at most 5 of ! and ( are open: with all that can wait in each", () -> {
            Edge.due("holds to the innermost", lit("lit q=0|q<8&(q=1|q<7&(q=2|q<7&(q=3|q<7&(q=4|q<7&(q=5|q<7&q>5)))))"), 127);
            Edge.due("holds not", lit("lit q=9|q<8&(q=9|q<7&(q=9|q<7&(q=9|q<7&(q=9|q<7&(q=5|q<7&q>6)))))"), 32);
            Edge.due("not of not", lit("lit q=9|q<8&!!!!!q=3"), 247);
            Edge.due("not of brackets", lit("lit q=9|q<8&!(q=9|q<8&!(q=9|q<8&!q=3))"), 247);
        });
        Edge.test("m the MIRROR's number", () -> {
            SunMirrors s = Edge.plain(6, 1, "lit m=0&q=0|m=5&q=5|m>4&q=7|m<1&q=1|m=6");
            int[] bits = {3, 0, 0, 0, 0, 32 + 128};
            for (int m = 0; m < 6; m++) {
                Edge.due("lit of " + m, s.can(m, 0, 0), bits[m]);
            }
        });
        Edge.test("p the PATCH's in eyes and own", () -> {
            SunMirrors s = Edge.plain(1, 6, "lit q<8;eyes p=0&q=0|p=5&q=5|p>5|p=99;own p=0&q=1|p=5&q=2|p>5|p=99");
            int[] cans = {254, 255, 255, 255, 255, 223};
            int[] owns = {2, 0, 0, 0, 0, 4};
            for (int p = 0; p < 6; p++) {
                Edge.due("can on " + p, s.can(0, p, 1), cans[p]);
                Edge.due("own of " + p, s.has(p, 2), owns[p]);
            }
        });
        Edge.test("d the DAY: 0 and 89", () -> {
            SunMirrors s = Edge.plain(1, 1, "lit d=0&q=0|d<1&q=1|d=89&q=2|d>88&q=3|d<89&q=4|d>0&q=5|d>89&q=6|d=90&q=7");
            Edge.due("day 0", s.can(0, 0, 0), 1 + 2 + 16);
            for (int day = 1; day <= 88; day++) s.day();
            Edge.due("day 88", s.can(0, 0, 0), 16 + 32);
            s.day();
            Edge.due("day 89", s.can(0, 0, 0), 4 + 8 + 32);
        });
        Edge.test("h the MIRROR's HEIGHT: 1 and 40", () -> {
            SunMirrors s = new SunMirrors();
            s.mirror(0, 0, Edge.LEAST);
            s.mirror(0, 0, Edge.GREATEST);
            s.patch(1000, 0, 0);
            Edge.read(s, "lit h=1&q=0|h<2&q=1|h=40&q=2|h>39&q=3|h<1&q=4|h>40&q=5|h>1&q=6|h<40&q=7;eyes h=40&q=2|h=1&q=0");
            Edge.due("lit with 1", s.can(0, 0, 0), 1 + 2 + 128);
            Edge.due("lit with 40", s.can(1, 0, 0), 4 + 8 + 64);
            Edge.due("can with 1", s.can(0, 0, 1), 2 + 128);
            Edge.due("can with 40", s.can(1, 0, 1), 8 + 64);
        });
        Edge.test("EYES without a VALLEY that tells of them", () ->
            Edge.due("can", Edge.plain(1, 1, "lit q<8").can(0, 0, 1), 255));
        Edge.test("EYES at every QUARTER", () -> Edge.due("can", Edge.plain(1, 1, "lit q<8;eyes q<8").can(0, 0, 1), 0));
    }

    /** A MIRROR of a KIND at 20, 20 with a v: the bits of those PATCHES on which it CAN throw. */
    private static int may(int kind, int v, int... places) {
        SunMirrors s = new SunMirrors();
        s.mirror(kind, 2020, Edge.make(0, 40, 1, v));
        for (int place : places) {
            s.patch(place, 0, 0);
        }
        Edge.read(s, "lit q=7");
        int bits = 0;
        for (int patch = 0; patch < places.length; patch++) {
            if (s.can(0, patch, 1) == 128) bits |= 1 << patch;
        }
        return bits;
    }

    private static void canMay() {
        Edge.promise("10 can, MAY");
        Edge.test("MIRROR: any", () -> Edge.due("at its point, too", may(0, 0, 2020, 0, 4040, 2021, 1920, 40), 63));
        Edge.test("TURNED: if they are not at one point", () ->
            Edge.due("one beside it", may(1, 9, 2020, 2021, 2019, 2120, 1920, 2020), 2 + 4 + 8 + 16));
        Edge.test("FIXED: the PATCH v alone", () -> {
            for (int v = 0; v <= 9; v++) {
                Edge.due("v " + v, may(2, v, 2020, 0, 1, 2, 3, 4), v < 6 ? 1 << v : 0);
            }
        });
        Edge.test("ONE: y of both no more than v apart", () -> {
            Edge.due("v 0", may(3, 0, 2020, 2021, 2019, 20, 4020, 4021), 8 + 16);
            Edge.due("v 1", may(3, 1, 2020, 2021, 2019, 2022, 2018, 4021), 2 + 4 + 32);
            Edge.due("v 9", may(3, 9, 2020, 2029, 2011, 2030, 2010, 29), 2 + 4 + 32);
            Edge.due("v 9, but for its own point all there are less apart", may(3, 9, 2020, 2021, 2028, 2012, 20, 4019), 62);
        });
        Edge.test("GREAT: x of both v or more apart", () -> {
            Edge.due("v 0", may(4, 0, 2020, 2021, 2019, 2120, 1920, 0), 62);
            Edge.due("v 1", may(4, 1, 2020, 2021, 2019, 2120, 1920, 2000), 8 + 16);
            Edge.due("v 9", may(4, 9, 2020, 2920, 1120, 2820, 1220, 1140), 2 + 4 + 32);
            Edge.due("v 9, farther and nearer ones", may(4, 9, 3020, 1020, 4020, 20, 2120, 2000), 15);
        });
        Edge.test("PASSING: as FIXED", () -> {
            for (int v = 0; v <= 9; v++) {
                Edge.due("v " + v, may(5, v, 2020, 0, 1, 2, 3, 4), v < 6 ? 1 << v : 0);
            }
        });
        Edge.test("TOLD: any but the PATCH v", () -> {
            for (int v = 0; v <= 9; v++) {
                Edge.due("v " + v, may(6, v, 2020, 0, 1, 2, 3, 4), v < 6 ? 63 - (1 << v) : 63);
            }
        });
        Edge.test("LIGHT: SIZE (GREAT ones twice that), 1 and 9", () -> {
            for (int kind = 0; kind <= 6; kind++) {
                SunMirrors s = new SunMirrors();
                s.mirror(kind, 0, Edge.make(0, 9, 1, kind == 6 ? 9 : 0));
                s.mirror(kind, 0, Edge.make(0, 9, 9, kind == 6 ? 9 : 0));
                s.patch(4000, 1, 0);
                Edge.read(s, "lit q=7");
                Edge.due("size 1 of kind " + kind, s.best(0, -1), kind == 4 ? 2 : 1);
                Edge.due("size 9 of kind " + kind, s.best(1, -1), kind == 4 ? 18 : 9);
            }
        });
    }

    private static void canRefusals() {
        Edge.promise("10 can");
        Edge.test("what 0, 1", () -> {
            Edge.due("what 0", Edge.plain(1, 1, "lit q<8;eyes q=1").can(0, 0, 0), 255);
            Edge.due("what 1", Edge.plain(1, 1, "lit q<8;eyes q=1").can(0, 0, 1), 253);
            for (int what : new int[] {-1, 2, 3, 99}) Edge.refused("what " + what, Edge::some, s -> s.can(0, 0, what), -1);
            for (int what : FAR) Edge.refused("what " + what, Edge::some, s -> s.can(0, 0, what), -1);
        });
        Edge.test("the PATCH has to be there by what 0, too", () -> {
            for (int p : new int[] {-1, 3, 5, 6, 99}) {
                Edge.refused("patch " + p + ", what 0", Edge::some, s -> s.can(0, p, 0), -1);
                Edge.refused("patch " + p + ", what 1", Edge::some, s -> s.can(0, p, 1), -1);
            }
            for (int p : FAR) Edge.refused("patch " + p, Edge::some, s -> s.can(0, p, 0), -1);
            Edge.refused("no patches", () -> Edge.plain(1, 0, "lit q<8"), s -> s.can(0, 0, 0), -1);
            Edge.refused("of six, 6", Edge::full, s -> s.can(0, 6, 0), -1);
        });
        Edge.test("NONE there is no such MIRROR", () -> {
            for (int m : new int[] {-1, 3, 5, 6, 99}) {
                Edge.refused("mirror " + m, Edge::some, s -> s.can(m, 0, 0), -1);
                Edge.refused("mirror " + m, Edge::some, s -> s.can(m, 0, 1), -1);
            }
            for (int m : FAR) Edge.refused("mirror " + m, Edge::some, s -> s.can(m, 0, 1), -1);
            Edge.refused("of six, 6", Edge::full, s -> s.can(6, 0, 1), -1);
        });
    }

    /** MIRROR 0 at 0, 0 and a PASSING one at 40, 0, of two HEIGHTS, with a WALL across at x: by whom. */
    private static void duePassed(int from, int by, int x, int wallHeight, int want) {
        SunMirrors s = new SunMirrors();
        s.mirror(0, 0, Edge.make(0, from, 1, 0));
        s.mirror(5, 4000, Edge.make(0, by, 1, 0));
        s.patch(4040, 0, 0);
        Edge.read(s, "lit q<8");
        s.wall(100 * x, 100 * x + 10, wallHeight);
        Edge.due("by " + from + " to " + by + ", wall at " + x + ", " + wallHeight, s.passed(0, 0, 0), want);
    }

    private static void passedWays() {
        Edge.promise("22 passed");
        Edge.test("evenly from the HEIGHT of the one to that of the other; lower than the WALL, as high is not", () -> {
            duePassed(10, 30, 20, 20, 1);
            duePassed(10, 30, 20, 21, -5);
            duePassed(30, 10, 20, 20, 1);
            duePassed(30, 10, 20, 21, -5);
            duePassed(40, 40, 20, 40, 1);
            duePassed(39, 39, 20, 40, -5);
            duePassed(10, 30, 0, 10, 1);
            duePassed(10, 30, 0, 11, -5);
            duePassed(1, 40, 1, 1, 1);
            duePassed(1, 40, 1, 2, -5);
            duePassed(1, 40, 39, 39, 1);
            duePassed(1, 40, 39, 40, -5);
        });
        Edge.test("a WALL that ends at the PASSING one", () -> {
            SunMirrors s = new SunMirrors();
            s.mirror(0, 0, Edge.make(0, 9, 1, 0));
            s.mirror(5, 4000, Edge.make(0, 9, 1, 0));
            s.patch(4040, 0, 0);
            Edge.read(s, "lit q<8");
            // It is along the way on, so it is between the two alone.
            s.wall(4000, 4030, 9);
            Edge.due("as high", s.passed(0, 0, 0), 1);
            s.wall(4000, 4030, 10);
            Edge.due("higher", s.passed(0, 0, 0), -5);
        });
        Edge.test("never at one point", () -> {
            SunMirrors s = new SunMirrors();
            s.mirror(0, 2020, Edge.make(0, 1, 1, 0));
            s.mirror(5, 2020, Edge.make(0, 40, 1, 0));
            s.patch(4020, 0, 0);
            Edge.read(s, "lit q<8");
            s.wall(2000, 2040, 40);
            Edge.due("a wall through the point", s.passed(0, 0, 0), 1);
        });
        Edge.test("the least PASSING one", () -> {
            SunMirrors s = Edge.plain(1, 1, "lit q<8");
            for (int i = 1; i < 6; i++) {
                s.mirror(5, 0, Edge.LEAST);
            }
            Edge.due("by 1 of 1 .. 5", s.passed(0, 0, 0), 1);
            Edge.due("of 5", s.passed(5, 0, 0), 1);
            Edge.due("another one", s.passed(1, 0, 0), 2);
        });
        Edge.test("the sixth, and MIRROR 0, can be the PASSING one", () -> {
            SunMirrors last = Edge.plain(5, 1, "lit q<8");
            last.mirror(5, 0, Edge.LEAST);
            Edge.due("by 5", last.passed(4, 0, 7), 5);
            SunMirrors first = new SunMirrors();
            first.mirror(5, 0, Edge.LEAST);
            first.mirror(0, 0, Edge.LEAST);
            first.patch(1000, 0, 0);
            Edge.read(first, "lit q<8");
            Edge.due("by 0", first.passed(1, 0, 7), 0);
        });
        Edge.test("-5: none", () -> {
            Edge.refused("no passing one", () -> Edge.plain(2, 1, "lit q<8"), s -> s.passed(0, 0, 0), -5);
            Edge.refused("one alone, not by itself", EdgesOfThrowing::onePassing, s -> s.passed(0, 0, 0), -5);
            SunMirrors kinds = new SunMirrors();
            for (int kind : new int[] {0, 1, 2, 3, 4, 6}) kinds.mirror(kind, 0, Edge.LEAST);
            kinds.patch(1000, 0, 0);
            Edge.read(kinds, "lit q<8");
            Edge.due("no other kind passes on", kinds.passed(0, 0, 0), -5);
        });
        Edge.test("LIT at that QUARTER", () -> {
            SunMirrors s = onePassing();
            s.mirror(0, 0, Edge.LEAST);
            Edge.read(s, "lit m=1&(q=0|q=7)");
            for (int q = 0; q < 8; q++) {
                Edge.due("at " + q, s.passed(1, 0, q), q == 0 || q == 7 ? 0 : -5);
            }
        });
    }

    private static SunMirrors onePassing() {
        SunMirrors s = new SunMirrors();
        s.mirror(5, 0, Edge.LEAST);
        s.patch(1000, 0, 0);
        Edge.read(s, "lit q<8");
        return s;
    }

    private static void passedRefusals() {
        Edge.promise("22 passed");
        Edge.test("NONE there is no such QUARTER", () -> {
            Edge.due("7", Edge.some().passed(1, 0, 7), 2);
            for (int q : new int[] {-1, 8, 9, 99}) Edge.refused("quarter " + q, Edge::some, s -> s.passed(1, 0, q), -1);
            for (int q : FAR) Edge.refused("quarter " + q, Edge::some, s -> s.passed(1, 0, q), -1);
        });
        Edge.test("NONE there is no such MIRROR", () -> {
            for (int m : new int[] {-1, 3, 6, 99}) Edge.refused("mirror " + m, Edge::some, s -> s.passed(m, 0, 0), -1);
            for (int m : FAR) Edge.refused("mirror " + m, Edge::some, s -> s.passed(m, 0, 0), -1);
            Edge.refused("of six, 6", Edge::full, s -> s.passed(6, 0, 0), -1);
        });
        Edge.test("NONE there is no such PATCH", () -> {
            Edge.due("the last", Edge.some().passed(1, 2, 0), 2);
            for (int p : new int[] {-1, 3, 6, 99}) Edge.refused("patch " + p, Edge::some, s -> s.passed(1, p, 0), -1);
            for (int p : FAR) Edge.refused("patch " + p, Edge::some, s -> s.passed(1, p, 0), -1);
            Edge.refused("of six, 6", Edge::full, s -> s.passed(0, 6, 0), -1);
        });
    }
}
