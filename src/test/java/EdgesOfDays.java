/** The edges of promises 20, 21 and 23 to 25: SNOW, DAYS, VOTES. A test a sentence that names a boundary. */
public final class EdgesOfDays {
    private static final int[] FAR = {Integer.MIN_VALUE, Integer.MIN_VALUE + 1, Integer.MAX_VALUE - 1, Integer.MAX_VALUE};
    private static final int[] ROWS = {0, 0, 10, 210, 3210, 43210, 543210};

    public static void main(String[] args) {
        gone();
        day();
        vote();
        voteRefusals();
        voteOrder();
        clear();
        holds();
        holdsOrder();
        holdsRing();
        holdsRefusals();
        Edge.end();
    }

    /** A PATCH with SNOW that has sun of its own by a text, from a DAY on. */
    private static SunMirrors snow(int snow, String own, int day) {
        SunMirrors s = new SunMirrors();
        s.patch(0, 1, 0);
        Edge.read(s, own);
        for (int i = 0; i < day; i++) s.day();
        s.patch(0, 1, snow);
        return s;
    }

    private static void dueGone(String own, int snow, int day, int want) {
        Edge.due("gone with " + snow + ", " + own + ", on day " + day, snow(snow, own, day).gone(1), want);
    }

    private static void gone() {
        Edge.promise("20 gone");
        Edge.test("by how many DAYS more: 0", () -> {
            dueGone("own q<8", 0, 0, 0);
            dueGone("own q=9", 0, 0, 0);
            dueGone("own q<8", 1, 0, 1);
            dueGone("own q<8", 8, 0, 1);
            dueGone("own q<8", 9, 0, 2);
        });
        Edge.test("by how many DAYS more: 30, and one more", () -> {
            dueGone("own q=0&d>9", 20, 0, 30);
            dueGone("own q=0&d>10", 20, 0, -5);
            dueGone("own q=0&d=29", 1, 0, 30);
            dueGone("own q=0&d=30", 1, 0, -5);
            dueGone("own q=0&d=28", 1, 0, 29);
        });
        Edge.test("-5: by none", () -> {
            dueGone("own q=9", 1, 0, -5);
            dueGone("own q=9", 20, 89, -5);
            Edge.due("no valley", Edge.plain(1, 1, "").gone(0), -5);
        });
        Edge.test("also beyond DAY 89", () -> {
            dueGone("own d=89&q=0", 1, 89, 1);
            dueGone("own d=90&q=0", 1, 89, 2);
            dueGone("own d>89&q=0", 20, 89, 21);
            dueGone("own d=99&q=0", 1, 89, 11);
            dueGone("own d>98&q=0", 20, 89, 30);
            dueGone("own d>99&q=0", 20, 89, -5);
            dueGone("own d>99&q=0", 19, 89, 30);
            dueGone("own d=99&q=0", 1, 70, 30);
            dueGone("own d=99&q=0", 1, 69, -5);
        });
        Edge.test("SNOW is less by one (0 at least): a DAY of more sun than snow", () -> dueGone("own q<8", 20, 0, 3));
        Edge.test("it asks, and no DAY goes", () -> Edge.refused("gone(0)", Edge::some, s -> s.gone(0), 4));
        Edge.test("NONE there is no such PATCH", () -> {
            Edge.due("the last", Edge.some().gone(2), 2);
            for (int p : new int[] {-1, 3, 6, 99}) Edge.refused("patch " + p, Edge::some, s -> s.gone(p), -1);
            for (int p : FAR) Edge.refused("patch " + p, Edge::some, s -> s.gone(p), -1);
            Edge.refused("of six, 6", Edge::full, s -> s.gone(6), -1);
        });
    }

    private static void day() {
        Edge.promise("21 day");
        Edge.test("DAYS 0 .. 89; STATE: it is DAY 89", () -> {
            SunMirrors s = Edge.plain(0, 1, "own q=0");
            for (int day = 1; day <= 89; day++) {
                Edge.due("day()", s.day(), day);
                Edge.due("count(4)", s.count(4), day);
            }
            Edge.due("a day more", s.day(), -3);
            Edge.due("count(4)", s.count(4), 89);
            Edge.refused("a day more", Edge::full, SunMirrors::day, -3);
        });
        Edge.test("STATE changes nothing: SNOW stays that has sun", () -> {
            Edge.refused("a day more", () -> snow(20, "own q<8", 89), SunMirrors::day, -3);
            SunMirrors s = snow(20, "own q<8", 89);
            s.day();
            Edge.due("snow", s.is(1, 3), 20);
        });
        Edge.test("behind undo() DAYS go again", () -> {
            SunMirrors s = snow(20, "own q<8", 88);
            s.image();
            Edge.due("day 89", s.day(), 89);
            Edge.due("a day more", s.day(), -3);
            s.undo();
            Edge.due("day 89 again", s.day(), 89);
        });
        Edge.test("SNOW is less by one (0 at least)", () -> {
            for (int left = 0; left <= 8; left++) {
                SunMirrors s = snow(left, "own q<4", 0);
                s.day();
                Edge.due("of " + left + " by four", s.is(1, 3), Math.max(0, left - 4));
            }
        });
        Edge.test("for each QUARTER: none, one, all", () -> {
            String[] owns = {"own q=8", "own q=0", "own q=7", "own q<8"};
            int[] left = {20, 19, 19, 12};
            for (int i = 0; i < owns.length; i++) {
                SunMirrors s = snow(20, owns[i], 0);
                s.day();
                Edge.due(owns[i], s.is(1, 3), left[i]);
            }
        });
        Edge.test("as on that DAY", () -> {
            SunMirrors s = snow(20, "own d=0&q=0|d=1&q<3", 0);
            s.day();
            Edge.due("of day 0", s.is(1, 3), 19);
            s.day();
            Edge.due("of day 1", s.is(1, 3), 16);
            s.day();
            Edge.due("of day 2", s.is(1, 3), 16);
        });
        Edge.test("of each PATCH: of six; no PATCHES", () -> {
            SunMirrors s = Edge.plain(0, 6, "own p=0|p=5");
            s.day();
            for (int p = 0; p < 6; p++) {
                Edge.due("snow of " + p, s.is(p, 3), p % 5 == 0 ? 12 : 20);
            }
            Edge.due("no patches", new SunMirrors().day(), 1);
        });
    }

    private static SunMirrors patches(int size, int... rows) {
        SunMirrors s = Edge.plain(0, size, "");
        for (int row : rows) {
            s.vote(row);
        }
        return s;
    }

    private static void badVote(int size, int... digits) {
        for (int one : digits) {
            Edge.refused(size + " patches, vote(" + one + ")", () -> patches(size), s -> s.vote(one), -2);
            Edge.refused(size + " patches and a row, vote(" + one + ")", () -> patches(size, ROWS[size]), s -> s.vote(one), -2);
        }
    }

    private static void vote() {
        Edge.promise("23 vote");
        Edge.test("5 rows at most", () -> {
            SunMirrors s = patches(3);
            for (int row = 1; row <= 5; row++) {
                Edge.due("row " + row, s.vote(row % 2 == 0 ? 120 : 12), row);
            }
            Edge.due("a sixth", s.vote(120), -4);
            Edge.due("count(5)", s.count(5), 5);
            Edge.refused("a sixth", () -> patches(3, 12, 12, 120, 120, 201), t -> t.vote(120), -4);
            Edge.refused("a sixth of six patches", Edge::full, t -> t.vote(12345), -4);
        });
        Edge.test("each of all PATCHES (digits, each once), the dearest the highest", () -> {
            for (int size = 1; size <= 6; size++) {
                SunMirrors s = patches(size, ROWS[size]);
                Edge.due("a row of " + size, s.count(5), 1);
                for (int i = 0; i < size; i++) {
                    Edge.due("of " + size + " the order's " + i, s.holds(10 + i), size - 1 - i);
                }
            }
        });
        Edge.test("digits with PATCH 0 the dearest", () -> {
            int[] rows = {0, 0, 1, 12, 123, 1234, 12345};
            for (int size = 1; size <= 6; size++) {
                SunMirrors s = patches(size, rows[size]);
                Edge.due("a row of " + size, s.count(5), 1);
                for (int i = 0; i < size; i++) {
                    Edge.due("of " + size + " the order's " + i, s.holds(10 + i), i);
                }
            }
        });
    }

    private static void voteRefusals() {
        Edge.promise("23 vote");
        Edge.test("BAD: digits below 0, and far ones", () -> {
            for (int size = 1; size <= 6; size++) {
                badVote(size, -1, -ROWS[size] - 1, -10);
                badVote(size, FAR);
            }
            badVote(2, -10, -1);
            badVote(3, -12, -210);
        });
        Edge.test("BAD: a digit twice", () -> {
            badVote(2, 0, 11);
            badVote(3, 0, 112, 122, 110, 11, 220);
            badVote(6, 543211, 543200, 112345, 0, 12344);
        });
        Edge.test("BAD: a digit of no PATCH", () -> {
            badVote(1, 1, 9);
            badVote(2, 12, 20, 2, 91);
            badVote(3, 13, 310, 213, 912);
            badVote(6, 543216, 643210, 543219, 67891);
        });
        Edge.test("BAD: a digit too many, too few", () -> {
            badVote(1, 10, 100);
            badVote(2, 100, 110, 210, 1001);
            badVote(3, 1, 10, 20, 1012, 3210, 1210);
            badVote(6, 4321, 54320, 1543210, 6543210, 1012345, 1000012345);
        });
        Edge.test("STATE: there are no PATCHES", () -> {
            Edge.refused("no patches", Edge::empty, s -> s.vote(0), -3);
            Edge.refused("no patches, but mirrors", () -> Edge.plain(6, 0, "lit q<8"), s -> s.vote(10), -3);
        });
        Edge.test("STATE: one came since the first row", () -> {
            Edge.refused("with its digits", Edge::late, s -> s.vote(3210), -3);
            Edge.refused("with the digits of before", Edge::late, s -> s.vote(210), -3);
        });
        Edge.test("one that came ahead of the first row is no STATE", () -> {
            SunMirrors s = patches(2);
            s.patch(0, 0, 0);
            Edge.due("the first row", s.vote(210), 1);
            SunMirrors cleared = patches(2, 10);
            cleared.patch(0, 0, 0);
            cleared.clear();
            Edge.due("the first row behind clear()", cleared.vote(210), 1);
        });
        Edge.test("a PATCH that is refused did not come", () -> {
            SunMirrors s = patches(2, 10);
            s.patch(41, 0, 0);
            Edge.due("vote(1)", s.vote(1), 2);
        });
    }

    private static void voteOrder() {
        Edge.promise("23 vote");
        Edge.test("STATE; BAD: the first one told", () -> {
            Edge.refused("no patches, -1", Edge::empty, s -> s.vote(-1), -3);
            Edge.refused("one came, -1", Edge::late, s -> s.vote(-1), -3);
            Edge.refused("one came, 77", Edge::late, s -> s.vote(77), -3);
        });
        Edge.test("STATE; FULL: the first one told", () ->
            Edge.refused("one came, a sixth", Edge::lateAndFull, s -> s.vote(210), -3));
        Edge.test("BAD; FULL: the first one told", () -> {
            for (int digits : new int[] {-1, 11, 12, 543216, Integer.MAX_VALUE}) {
                Edge.refused(digits + ", a sixth", Edge::full, s -> s.vote(digits), -2);
            }
        });
        Edge.test("STATE; BAD; FULL: the first one told", () ->
            Edge.refused("one came, -1, a sixth", Edge::lateAndFull, s -> s.vote(-1), -3));
    }

    private static void clear() {
        Edge.promise("24 clear");
        Edge.test("how many there were: 0, 1, 5", () -> {
            for (int rows = 0; rows <= 5; rows++) {
                SunMirrors s = patches(2);
                for (int i = 0; i < rows; i++) s.vote(10);
                Edge.due("clear() of " + rows, s.clear(), rows);
                Edge.due("count(5)", s.count(5), 0);
                Edge.due("clear() once more", s.clear(), 0);
            }
        });
        Edge.test("of no rows it changes nothing", () -> {
            Edge.refused("of nothing", Edge::empty, SunMirrors::clear, 0);
            Edge.refused("of no rows", () -> Edge.plain(3, 3, "lit q<8"), SunMirrors::clear, 0);
        });
        Edge.test("all rows are gone: five more have place", () -> {
            SunMirrors s = patches(2, 10, 10, 10, 10, 10);
            s.clear();
            for (int row = 1; row <= 5; row++) {
                Edge.due("row " + row, s.vote(1), row);
                Edge.due("none of the old", s.holds(0), 0);
            }
            Edge.due("a sixth", s.vote(1), -4);
        });
        Edge.test("all rows are gone: nothing else", () ->
            Edge.same("clear()", () -> {
                SunMirrors s = Edge.plain(2, 3, "lit q<8;turn 0");
                Edge.plan(s, 0, "012");
                s.vote(210);
                s.clear();
                return s;
            }, () -> {
                SunMirrors s = Edge.plain(2, 3, "lit q<8;turn 0");
                Edge.plan(s, 0, "012");
                return s;
            }));
    }

    private static void holds() {
        Edge.promise("25 holds");
        Edge.test("BEATS: in more than half of the rows", () -> {
            Edge.due("1 of 1", patches(2, 10).holds(0), 1);
            Edge.due("1 of 2", patches(2, 10, 1).holds(0), -5);
            Edge.due("2 of 3", patches(2, 10, 1, 10).holds(0), 1);
            Edge.due("2 of 4", patches(2, 10, 1, 10, 1).holds(0), -5);
            Edge.due("3 of 4", patches(2, 10, 10, 10, 1).holds(0), 1);
            Edge.due("2 of 5", patches(2, 10, 1, 10, 1, 1).holds(0), 0);
            Edge.due("3 of 5", patches(2, 10, 1, 10, 1, 10).holds(0), 1);
            Edge.due("half beats none", patches(2, 10, 1).holds(20), 0);
            Edge.due("nor the other", patches(2, 10, 1).holds(21), 0);
        });
        Edge.test("HOLDS: one alone, too", () -> {
            SunMirrors s = patches(1, 0);
            Edge.due("holds", s.holds(0), 0);
            Edge.due("order", s.holds(10), 0);
            Edge.due("beats", s.holds(20), 0);
            Edge.due("ring", s.holds(1), -5);
        });
        Edge.test("HOLDS: that beats all others; -5: none", () -> {
            Edge.due("the last of six", patches(6, 543210).holds(0), 5);
            Edge.due("the first of six", patches(6, 12345).holds(0), 0);
            Edge.due("all but one", patches(3, 210, 120).holds(0), -5);
            Edge.due("a ring", patches(3, 12, 120, 201).holds(0), -5);
        });
        Edge.test("how many PATCH p beats: 0 .. 5", () -> {
            SunMirrors s = patches(6, 543210);
            for (int p = 0; p < 6; p++) {
                Edge.due("of " + p, s.holds(20 + p), p);
            }
        });
    }

    private static void holdsOrder() {
        Edge.promise("25 holds");
        Edge.test("ORDER: most first", () -> {
            SunMirrors s = patches(6, 304152);
            for (int i = 0; i < 6; i++) {
                Edge.due("the " + i + ".", s.holds(10 + i), "304152".charAt(i) - '0');
            }
        });
        Edge.test("of like ones by numbers", () -> {
            SunMirrors s = patches(6, 543210, 12345);
            for (int i = 0; i < 6; i++) {
                Edge.due("none beats any, the " + i + ".", s.holds(10 + i), i);
            }
            SunMirrors two = patches(4, 3120, 3210);
            int[] order = {3, 1, 2, 0};
            for (int i = 0; i < 4; i++) {
                Edge.due("1 and 2 are alike, the " + i + ".", two.holds(10 + i), order[i]);
            }
        });
    }

    private static void holdsRing() {
        Edge.promise("25 holds");
        Edge.test("RING -5: none", () -> {
            Edge.due("of one", patches(1, 0).holds(1), -5);
            Edge.due("of two", patches(2, 10).holds(1), -5);
            Edge.due("of two, half", patches(2, 10, 1).holds(1), -5);
            Edge.due("of three, one row", patches(3, 12).holds(1), -5);
            Edge.due("of six, one row", patches(6, 543210).holds(1), -5);
            // 0 ahead of 1 ahead of 2, each by more than half, but 2 and 0 by half alone.
            Edge.due("half closes none", patches(3, 12, 12, 201, 120).holds(1), -5);
        });
        Edge.test("the least three (a least, as a row)", () -> {
            Edge.due("0 1 2", patches(3, 12, 120, 201).holds(1), 12);
            Edge.due("0 2 1", patches(3, 21, 210, 102).holds(1), 21);
            Edge.due("of four, without 0", patches(4, 1230, 2310, 3120).holds(1), 123);
            Edge.due("of six, the last three", patches(6, 345012, 453012, 534012).holds(1), 345);
            Edge.due("of six, the last three the other way", patches(6, 354012, 543012, 435012).holds(1), 354);
            // Two RINGS: 0 1 2 and 3 4 5.
            Edge.due("of two the first", patches(6, 12345, 120453, 201534).holds(1), 12);
            // 0 beats 1, 1 beats 2, 1 beats 3, 2 and 3 beat 0: 012 and 013.
            Edge.due("of like beginnings the least", patches(4, 123, 1230, 2301).holds(1), 12);
        });
    }

    private static void holdsRefusals() {
        Edge.promise("25 holds");
        Edge.test("NONE: what 0, 1, 10 and i, 20 and p", () -> {
            for (int size = 1; size <= 6; size++) {
                int patches = size;
                SunMirrors s = patches(size, ROWS[size]);
                for (int what = 0; what < 30; what++) {
                    int asked = what;
                    boolean there = what < 2 || what >= 10 && what < 10 + size || what >= 20 && what < 20 + size;
                    if (there) Edge.due(size + " patches, holds(" + what + ") is there", s.holds(what) == -1 ? 1 : 0, 0);
                    else Edge.refused(size + " patches, holds(" + what + ")", () -> patches(patches, ROWS[patches]), t -> t.holds(asked), -1);
                }
            }
            for (int what : new int[] {-1, -10, -20, 30, 99, 110}) Edge.refused("what " + what, Edge::some, s -> s.holds(what), -1);
            for (int what : FAR) Edge.refused("what " + what, Edge::some, s -> s.holds(what), -1);
        });
        Edge.test("STATE: there are no rows", () -> {
            for (int what : new int[] {0, 1, 10, 12, 20, 22}) {
                Edge.refused("holds(" + what + ")", () -> patches(3), s -> s.holds(what), -3);
                Edge.refused("holds(" + what + ") behind clear()", EdgesOfDays::cleared, s -> s.holds(what), -3);
            }
            Edge.refused("holds(0), no patches", Edge::empty, s -> s.holds(0), -3);
            Edge.refused("holds(1), no patches", Edge::empty, s -> s.holds(1), -3);
        });
        Edge.test("STATE: a PATCH came since the first row", () -> {
            for (int what : new int[] {0, 1, 10, 12, 20, 22}) {
                Edge.refused("holds(" + what + ")", Edge::late, s -> s.holds(what), -3);
            }
        });
        Edge.test("NONE; STATE: the first one told", () -> {
            for (int what : new int[] {-1, 2, 9, 16, 19, 26, 30}) {
                Edge.refused("no rows, holds(" + what + ")", () -> patches(6), s -> s.holds(what), -1);
                Edge.refused("a patch came, holds(" + what + ")", Edge::late, s -> s.holds(what), -1);
                Edge.refused("nothing there, holds(" + what + ")", Edge::empty, s -> s.holds(what), -1);
            }
        });
        Edge.test("behind clear() and a row the PATCH that came is one of all", () -> {
            SunMirrors s = Edge.late();
            s.clear();
            Edge.due("vote()", s.vote(3210), 1);
            Edge.due("holds(0)", s.holds(0), 3);
            Edge.due("holds(13)", s.holds(13), 0);
        });
    }

    private static SunMirrors cleared() {
        SunMirrors s = patches(3, 210, 12);
        s.clear();
        return s;
    }
}
