import java.nio.charset.StandardCharsets;

/** The promises one by one: ordinary inputs, the edges that the document names, and refusals, which change nothing. */
public final class PromiseTests {
    private static int wrong = 0;
    private static int asked = 0;
    private static String promise = "";

    public static void main(String[] args) {
        promise1();
        promise2();
        promise3();
        promise4();
        promise5();
        promise6();
        promise7();
        promise8();
        promise8Faults();
        promise8Limits();
        promise9();
        promise10Lit();
        promise10Can();
        promise10May();
        promise11();
        promise12();
        promise13();
        promise14();
        promise15();
        promise16();
        promise17();
        promise18();
        promise19();
        promise20();
        promise21();
        promise22();
        promise23();
        promise24();
        promise25();
        promise26();
        promise27();
        promise28();
        promise29();
        promise30();
        promise31();
        System.out.println(asked + " answers asked, " + wrong + " not as due");
        if (wrong != 0) System.exit(1);
    }

    private static void due(String call, long got, long want) {
        asked++;
        if (got == want) return;
        wrong++;
        System.out.println(promise + ": " + call + " answered " + got + ", due is " + want);
    }

    private static void feed(SunMirrors s, String text) {
        for (byte sign : text.getBytes(StandardCharsets.ISO_8859_1)) {
            s.feed(sign, 1);
        }
    }

    private static int read(SunMirrors s, String text) {
        feed(s, text);
        return s.valley();
    }

    /** The FAULT of a text on a new object; -1 if it is a VALLEY. */
    private static int fault(String text) {
        int answer = read(new SunMirrors(), text);
        return answer == 0 ? -1 : -10 - answer;
    }

    private static int make(int cost, int height, int size, int v) {
        return 10000 * cost + 100 * height + 10 * size + v;
    }

    private static void promise1() {
        promise = "1 a new object";
        SunMirrors s = new SunMirrors();
        for (int what = 0; what < 8; what++) {
            due("count(" + what + ")", s.count(what), 0);
        }
        due("of(0, 0)", s.of(0, 0), -1);
        due("is(0, 0)", s.is(0, 0), -1);
        due("NONE", SunMirrors.NONE, -1);
        due("BAD", SunMirrors.BAD, -2);
        due("STATE", SunMirrors.STATE, -3);
        due("FULL", SunMirrors.FULL, -4);
        due("NO", SunMirrors.NO, Long.MIN_VALUE);
        SunMirrors other = new SunMirrors();
        other.mirror(0, 0, make(0, 1, 1, 0));
        due("count(0) of another object", s.count(0), 0);
    }

    private static void promise2() {
        promise = "2 mirror";
        SunMirrors s = new SunMirrors();
        int least = make(0, 1, 1, 0);
        due("kind -1", s.mirror(-1, 0, least), -1);
        due("kind 7, at and is bad", s.mirror(7, -1, -1), -1);
        due("at -1", s.mirror(0, -1, least), -2);
        due("y 41", s.mirror(0, 41, least), -2);
        due("x 41", s.mirror(0, 4100, least), -2);
        due("y 99", s.mirror(0, 99, least), -2);
        due("at the least int", s.mirror(0, Integer.MIN_VALUE, least), -2);
        due("at the greatest int", s.mirror(0, Integer.MAX_VALUE, least), -2);
        due("is -1", s.mirror(0, 0, -1), -2);
        due("is the least int", s.mirror(0, 0, Integer.MIN_VALUE), -2);
        due("HEIGHT 0", s.mirror(0, 0, make(0, 0, 1, 0)), -2);
        due("HEIGHT 41", s.mirror(0, 0, make(0, 41, 1, 0)), -2);
        due("SIZE 0", s.mirror(0, 0, make(0, 1, 0, 9)), -2);
        due("COST 100", s.mirror(0, 0, make(100, 1, 1, 0)), -2);
        due("count(0)", s.count(0), 0);
        due("the least", s.mirror(0, 0, least), 0);
        due("the greatest", s.mirror(6, 4040, make(99, 40, 9, 9)), 1);
        for (int i = 2; i < 6; i++) {
            due("one more", s.mirror(i, 40, least), i);
        }
        due("a seventh", s.mirror(0, 0, least), -4);
        due("a seventh, bad", s.mirror(0, 41, least), -2);
        due("a seventh of no kind", s.mirror(9, 0, least), -1);
        due("count(0)", s.count(0), 6);
        due("of(5, 0)", s.of(5, 0), 5);
    }

    private static void promise3() {
        promise = "3 patch";
        SunMirrors s = new SunMirrors();
        due("y 41", s.patch(41, 0, 0), -2);
        due("x 41", s.patch(4100, 0, 0), -2);
        due("at -1", s.patch(-1, 0, 0), -2);
        due("WORTH -1", s.patch(0, -1, 0), -2);
        due("WORTH 21", s.patch(0, 21, 0), -2);
        due("SNOW -1", s.patch(0, 0, -1), -2);
        due("SNOW 21", s.patch(0, 0, 21), -2);
        due("count(1)", s.count(1), 0);
        due("the least", s.patch(0, 0, 0), 0);
        due("the greatest", s.patch(4040, 20, 20), 1);
        for (int i = 2; i < 6; i++) {
            due("one more", s.patch(1, 1, 1), i);
        }
        due("a seventh", s.patch(0, 0, 0), -4);
        due("a seventh, bad", s.patch(0, 0, 21), -2);
        due("count(1)", s.count(1), 6);
    }

    private static void promise4() {
        promise = "4 wall";
        SunMirrors s = new SunMirrors();
        due("from bad", s.wall(41, 0, 1), -2);
        due("to bad", s.wall(0, 4100, 1), -2);
        due("to -1", s.wall(0, -1, 1), -2);
        due("HEIGHT 0", s.wall(0, 1, 0), -2);
        due("HEIGHT 41", s.wall(0, 1, 41), -2);
        due("count(2)", s.count(2), 0);
        due("the least, a point", s.wall(0, 0, 1), 0);
        due("the greatest", s.wall(0, 4040, 40), 1);
        for (int i = 2; i < 8; i++) {
            due("one more", s.wall(0, 1, 1), i);
        }
        due("a ninth", s.wall(0, 1, 1), -4);
        due("a ninth, bad", s.wall(0, 1, 41), -2);
        due("count(2)", s.count(2), 8);
    }

    private static void promise5() {
        promise = "5 of";
        SunMirrors s = new SunMirrors();
        s.mirror(4, 1203, make(45, 6, 7, 8));
        s.mirror(0, 312, make(0, 40, 1, 0));
        int[] first = {4, 12, 3, 6, 7, 45, 8};
        int[] second = {0, 3, 12, 40, 1, 0, 0};
        for (int what = 0; what < 7; what++) {
            due("of(0, " + what + ")", s.of(0, what), first[what]);
            due("of(1, " + what + ")", s.of(1, what), second[what]);
        }
        due("of(0, -1)", s.of(0, -1), -1);
        due("of(0, 7)", s.of(0, 7), -1);
        due("of(2, 0)", s.of(2, 0), -1);
        due("of(-1, 0)", s.of(-1, 0), -1);
    }

    private static void promise6() {
        promise = "6 is";
        SunMirrors s = new SunMirrors();
        s.patch(1203, 17, 19);
        int[] parts = {12, 3, 17, 19};
        for (int what = 0; what < 4; what++) {
            due("is(0, " + what + ")", s.is(0, what), parts[what]);
        }
        due("is(0, -1)", s.is(0, -1), -1);
        due("is(0, 4)", s.is(0, 4), -1);
        due("is(1, 0)", s.is(1, 0), -1);
        due("is(-1, 0)", s.is(-1, 0), -1);
    }

    private static void promise7() {
        promise = "7 feed";
        SunMirrors s = new SunMirrors();
        due("n 0", s.feed(0, 0), -2);
        due("n 9", s.feed(0, 9), -2);
        due("n -1", s.feed(0, -1), -2);
        due("count(6)", s.count(6), 0);
        due("two of eight", s.feed(0x1111111111116C69L, 2), 2);
        due("one", s.feed(0x74, 1), 3);
        due("five", s.feed(0x20713D3120L >> 8, 4), 7);
        due("lit q=1 is read in its order", s.valley(), 0);
        due("eight with the highest bit", s.feed(-1L, 8), 8);
        for (int i = 2; i < 16; i++) {
            due("eight", s.feed(0, 8), 8 * i);
        }
        due("one more", s.feed(0, 1), -4);
        due("n 9 of a full one", s.feed(0, 9), -2);
        due("count(6)", s.count(6), 120);
        due("valley()", s.valley(), -10);
        for (int i = 1; i < 15; i++) {
            s.feed(0, 8);
        }
        due("seven", s.feed(0, 7), 119);
        due("two more", s.feed(0, 2), -4);
        due("one more", s.feed(0, 1), 120);
    }

    private static void promise8() {
        promise = "8 valley";
        SunMirrors s = new SunMirrors();
        s.mirror(0, 0, make(1, 1, 1, 0));
        s.patch(0, 1, 1);
        due("an empty tape", s.valley(), -10);
        due("the first", read(s, "lit q=1"), 0);
        due("count(6)", s.count(6), 0);
        due("it holds", s.can(0, 0, 0), 2);
        due("the second", read(s, "lit q=2"), 1);
        due("the newest holds", s.can(0, 0, 0), 4);
        due("a fault", read(s, "lit q=3;"), -18);
        due("the tape is empty", s.count(6), 0);
        due("the one that held holds", s.can(0, 0, 0), 4);
        due("no lit at all", read(s, "turn 3"), 2);
        due("nothing is lit", s.can(0, 0, 0), 0);
        due("the fourth", read(s, "lit q=4"), 3);
        due("the fifth", read(s, "lit q=5"), 4);
        due("a sixth", read(s, "lit q=6"), -4);
        due("the tape stays", s.count(6), 7);
        due("the fifth holds", s.can(0, 0, 0), 32);
        due("full is ahead of a fault", read(s, "x"), -4);
        due("count(3)", s.count(3), 5);
    }

    private static void promise8Faults() {
        promise = "8 valley, faults";
        String[] good = {"lit m=1", "eyes p<99", "own q>0", "cloud 0", "cloud 10", "cloud 99", "turn 0", "turn 99", "lit d=10|h<5",
            "lit m=1&p=2&q=3|d=4", "lit !m=1", "lit (m=1)", "lit !!!!!m=1", "lit (((((m=1)))))", "lit !(!(!m=1))",
            "lit (m=1)&(m=2)&(m=3)&(m=4)&(m=5)&(m=6)", "lit !m=1&!m=2&!m=3&!m=4&!m=5&!m=6", "turn 1;turn 2;lit m=1"};
        for (String text : good) {
            due(text, fault(text), -1);
        }
        Object[][] bad = {{"", 0}, {"x", 0}, {"L", 0}, {"l", 1}, {"lot", 1}, {"lit", 3}, {"lit ", 4}, {"lit  m=1", 4}, {"litm", 3},
            {"lit x", 4}, {"lit m", 5}, {"lit m!", 5}, {"lit m=", 6}, {"lit m=x", 6}, {"lit m==", 6}, {"lit m=01", 7}, {"lit m=123", 8},
            {"lit m=1 ", 7}, {"lit m=1;", 8}, {"lit m=1;;", 8}, {"lit m=1&", 8}, {"lit m=1|", 8}, {"lit m=1&|", 8}, {"lit m=1)", 7},
            {"lit (m=1", 8}, {"lit ()", 5}, {"lit !", 5}, {"lit !)", 5}, {"lit !!!!!!m=1", 9}, {"lit ((((((m", 9}, {"lit !(!(!(m", 9},
            {"lit (((((m=1&!", 13}, {"lit (((((m=1))))))", 17}, {"eyes", 4}, {"eyed", 3}, {"own", 3}, {"owl", 2}, {"cloud", 5},
            {"cloud ", 6}, {"cloud m", 6}, {"cloud 00", 7}, {"cloud 100", 8}, {"cloud 1|", 7}, {"clod", 3}, {"turn", 4}, {"turn 1&", 6},
            {"turn 05", 6}, {"turn -", 5}, {"tarn", 1}, {"turn 123", 7}, {"lit q=1\u0000", 7}, {"\u00ecit q=1", 0}, {"lit \u00eds", 4},
            {"lit h>9&d<4)", 11}, {"lit m=0|q", 9}, {"lit m<1<", 7}};
        for (Object[] row : bad) {
            due((String) row[0], fault((String) row[0]), (int) row[1]);
        }
    }

    private static void promise8Limits() {
        promise = "8 valley, limits";
        String ten = "turn 1;".repeat(9) + "turn 1";
        due("ten clauses", fault(ten), -1);
        due("an eleventh clause", fault(ten + ";turn 1"), 69);
        due("ten clauses and ;", fault(ten + ";"), 69);
        String rules = "lit q=1;".repeat(9) + "own q=2";
        due("ten rules", fault(rules), -1);
        String whole = "lit " + "q=1|".repeat(28) + "q=10";
        due("120 bytes", whole.length(), 120);
        due("120 bytes are a valley", fault(whole), -1);
        due("120 bytes that end too early", fault("lit " + "q=1|".repeat(29)), 120);
        due("120 bytes, the last one wrong", fault("lit " + "q=1|".repeat(28) + "q=1x"), 119);
    }

    private static void promise9() {
        promise = "9 free";
        due("no wall", freeBehind(0, 40, 10, 4000), 1);
        due("the way is higher", freeBehind(0, 40, 10, 4000, 1000, 1040, 29), 1);
        due("as high", freeBehind(0, 40, 10, 4000, 1000, 1040, 30), 1);
        due("lower", freeBehind(0, 40, 10, 4000, 1000, 1040, 31), 0);
        due("a wall from above down", freeBehind(0, 40, 10, 4000, 1040, 1000, 31), 0);
        due("beside the way", freeBehind(0, 40, 10, 4000, 1001, 1040, 40), 1);
        due("the wall's end on the way", freeBehind(0, 40, 10, 4010, 1000, 1003, 40), 0);
        due("the wall's end ahead of the way", freeBehind(0, 40, 10, 4010, 1000, 1002, 40), 1);
        due("behind the patch", freeBehind(0, 40, 10, 2000, 2100, 2140, 40), 1);
        due("through the patch", freeBehind(0, 40, 10, 2000, 2000, 2040, 1), 0);
        due("through the mirror, as high", freeBehind(0, 10, 10, 2000, 0, 40, 10), 1);
        due("through the mirror, higher", freeBehind(0, 10, 10, 2000, 0, 40, 11), 0);
        due("behind the mirror", freeBehind(1000, 10, 10, 2000, 900, 940, 40), 1);
        due("parallel", freeBehind(0, 10, 10, 4000, 1, 4001, 40), 1);
        due("along the way", freeBehind(0, 10, 10, 4000, 1000, 2000, 40), 1);
        due("a point on the way", freeBehind(0, 10, 10, 4000, 1000, 1000, 40), 1);
        due("a way that is a point", freeBehind(1010, 10, 10, 1010, 1000, 1020, 40), 1);
        due("backwards, higher", freeBehind(4000, 40, 10, 0, 1000, 1040, 10), 1);
        due("backwards, lower", freeBehind(4000, 40, 10, 0, 1000, 1040, 11), 0);
        due("aslant at a third, 40 * 2 / 3 is over 26", freeBehind(0, 40, 10, 3030, 20, 2000, 26), 1);
        due("aslant at a third, 40 * 2 / 3 is below 27", freeBehind(0, 40, 10, 3030, 20, 2000, 27), 0);
        due("aslant from aside, higher", freeBehind(1030, 30, 10, 3010, 1010, 4040, 15), 1);
        due("aslant from aside, lower", freeBehind(1030, 30, 10, 3010, 1010, 4040, 16), 0);
        due("the least cross", freeBehind(0, 1, 10, 100, 100, 101, 1), 0);
        SunMirrors s = new SunMirrors();
        s.mirror(0, 0, make(0, 40, 1, 0));
        s.patch(4000, 0, 0);
        due("no mirror", s.free(1, 0), -1);
        due("mirror -1", s.free(-1, 0), -1);
        due("no patch", s.free(0, 1), -1);
        due("patch -1", s.free(0, -1), -1);
        s.wall(100, 140, 1);
        due("the first wall", s.free(0, 0), 1);
        s.wall(3900, 3940, 2);
        due("the second wall", s.free(0, 0), 0);
    }

    /** free() of a mirror and a patch with a wall: from, to, height. */
    private static int freeBehind(int mirror, int height, int size, int patch, int... wall) {
        SunMirrors s = new SunMirrors();
        s.mirror(0, mirror, make(0, height, size % 10 + 1, 0));
        s.patch(patch, 0, 0);
        if (wall.length == 3) s.wall(wall[0], wall[1], wall[2]);
        return s.free(0, 0);
    }

    private static int litBits(String text) {
        SunMirrors s = new SunMirrors();
        s.mirror(0, 0, make(0, 9, 1, 0));
        s.mirror(0, 0, make(0, 20, 1, 0));
        s.patch(0, 0, 0);
        read(s, text);
        return 1000 * s.can(0, 0, 0) + s.can(1, 0, 0);
    }

    private static void promise10Lit() {
        promise = "10 can, lit";
        due("no valley", litBits(""), 0);
        due("q=3", litBits("lit q=3"), 8008);
        due("q<3", litBits("lit q<3"), 7007);
        due("q>3", litBits("lit q>3"), 240240);
        due("m=1", litBits("lit m=1"), 255);
        due("m<0", litBits("lit m<0|q=1"), 2002);
        due("m<1", litBits("lit m<1"), 255000);
        due("h=20", litBits("lit h=20"), 255);
        due("h<10", litBits("lit h<10"), 255000);
        due("h>20", litBits("lit h>20"), 0);
        due("d=0", litBits("lit d=0"), 255255);
        due("d>0", litBits("lit d>0"), 0);
        due("p is 99", litBits("lit p=99"), 255255);
        due("p<99", litBits("lit p<99"), 0);
        due("two lits", litBits("lit q=1;lit q=2"), 6006);
        due("own and eyes are no lit", litBits("own q=1;eyes q=2"), 0);
        due("or", litBits("lit q=1|q=2"), 6006);
        due("and", litBits("lit q>1&q<4"), 12012);
        due("and binds tighter", litBits("lit q=0|q>1&m=1"), 1253);
        due("and binds tighter behind", litBits("lit m=1&q=0|q=7"), 128129);
        due("brackets", litBits("lit (q=0|q>1)&m=1"), 253);
        due("not", litBits("lit !q=0"), 254254);
        due("not binds tightest", litBits("lit !q=0&m=1"), 254);
        due("not of brackets", litBits("lit !(q=0&m=1)"), 255254);
        due("not not", litBits("lit !!q=0"), 1001);
        due("three of or and and", litBits("lit q=0|q=1|q=2&q=3|q=4"), 19019);
        due("deep", litBits("lit q=0|q=1&(q=9|q<8&(q=2|q<7&(q=3|q<6&(q=4|q<5&(q=1|q=2&m<9)))))"), 3003);
        SunMirrors rules = new SunMirrors();
        rules.mirror(0, 0, make(0, 9, 1, 0));
        rules.patch(0, 0, 0);
        read(rules, "own q=1;eyes q=2");
        due("own", rules.has(0, 2), 2);
        due("own alone is no lit", rules.can(0, 0, 0), 0);
        read(rules, "lit q=1;".repeat(8) + "lit q=3;lit q=5");
        due("ten lits", rules.can(0, 0, 0), 2 + 8 + 32);
        due("no own", rules.has(0, 2), 0);
        SunMirrors s = new SunMirrors();
        s.mirror(0, 0, make(0, 9, 1, 0));
        s.patch(0, 0, 0);
        read(s, "lit d=1");
        due("on day 0", s.can(0, 0, 0), 0);
        s.day();
        due("on day 1", s.can(0, 0, 0), 255);
        due("no mirror", s.can(1, 0, 0), -1);
        due("no patch", s.can(0, 1, 0), -1);
        due("what -1", s.can(0, 0, -1), -1);
        due("what 2", s.can(0, 0, 2), -1);
    }

    private static void promise10Can() {
        promise = "10 can";
        SunMirrors s = new SunMirrors();
        s.mirror(0, 0, make(0, 9, 1, 0));
        s.mirror(0, 0, make(0, 20, 1, 0));
        s.patch(4000, 0, 0);
        s.patch(40, 0, 0);
        due("no valley", s.can(0, 0, 1), 0);
        read(s, "lit q<4;eyes q=0;eyes m=1&p=1&q=2;eyes h=20&q=3");
        due("eyes by q", s.can(0, 0, 1), 14);
        due("eyes by h", s.can(1, 0, 1), 6);
        due("eyes by m and p", s.can(1, 1, 1), 2);
        due("another mirror", s.can(0, 1, 1), 14);
        s.wall(3900, 3940, 40);
        due("not free", s.can(0, 0, 1), 0);
        due("free", s.can(0, 1, 1), 14);
        due("lit all the same", s.can(0, 0, 0), 15);
        read(s, "lit q=1;eyes d=0");
        due("eyes by d", s.can(0, 1, 1), 0);
        s.day();
        due("eyes on another day", s.can(0, 1, 1), 2);
        due("no mirror", s.can(2, 0, 1), -1);
        due("no patch", s.can(0, 2, 1), -1);
    }

    private static void promise10May() {
        promise = "10 can, may";
        // Patches: 0 at the mirrors' own point, 1 and 2 beside it by y, 3 and 4 beside it by x.
        due("MIRROR", mayBits(0, 2), 31);
        due("TURNED", mayBits(1, 2), 30);
        due("FIXED 0", mayBits(2, 0), 1);
        due("FIXED 3", mayBits(2, 3), 8);
        due("FIXED of no patch", mayBits(2, 9), 0);
        due("ONE 0", mayBits(3, 0), 24);
        due("ONE 2", mayBits(3, 2), 26);
        due("ONE 3", mayBits(3, 3), 30);
        due("GREAT 0", mayBits(4, 0), 30);
        due("GREAT 2", mayBits(4, 2), 24);
        due("GREAT 3", mayBits(4, 3), 16);
        due("GREAT 4", mayBits(4, 4), 0);
        due("PASSING 0", mayBits(5, 0), 1);
        due("PASSING 4", mayBits(5, 4), 16);
        due("TOLD 0", mayBits(6, 0), 30);
        due("TOLD 4", mayBits(6, 4), 15);
        due("TOLD of no patch", mayBits(6, 9), 31);
    }

    private static int mayBits(int kind, int v) {
        SunMirrors s = new SunMirrors();
        s.mirror(kind, 1010, make(0, 9, 1, v));
        int[] places = {1010, 1012, 1007, 810, 1310};
        for (int place : places) {
            s.patch(place, 0, 0);
        }
        read(s, "lit q=0");
        int bits = 0;
        for (int patch = 0; patch < places.length; patch++) {
            bits |= s.can(0, patch, 1) << patch;
        }
        return bits;
    }

    /** Mirrors 0 to 2 of SIZE 2, 3 (GREAT) and 5, patches 0 to 3 worth 1, 2, 3, 0: all can. */
    private static SunMirrors sunny(String valley) {
        SunMirrors s = new SunMirrors();
        s.mirror(0, 0, make(10, 9, 2, 0));
        s.mirror(4, 0, make(20, 9, 3, 1));
        s.mirror(0, 0, make(30, 9, 5, 0));
        s.patch(1000, 1, 8);
        s.patch(1100, 2, 5);
        s.patch(1200, 3, 0);
        s.patch(1300, 0, 20);
        read(s, valley);
        return s;
    }

    private static void planAll(SunMirrors s, int mirror, String row) {
        for (int quarter = 0; quarter < row.length(); quarter++) {
            s.plan(mirror, quarter, row.charAt(quarter) == '-' ? -1 : row.charAt(quarter) - '0');
        }
    }

    private static void promise11() {
        promise = "11 plan";
        SunMirrors s = sunny("lit q<8");
        due("none at first", s.plan(0, 0, 3), -5);
        due("what it was", s.plan(0, 0, 0), 3);
        due("patch 0", s.plan(0, 0, -1), 0);
        due("none", s.plan(0, 0, -1), -5);
        due("the last quarter", s.plan(2, 7, 1), -5);
        due("no mirror", s.plan(3, 0, 0), -1);
        due("mirror -1", s.plan(-1, 0, 0), -1);
        due("quarter 8", s.plan(2, 8, 0), -1);
        due("quarter -1", s.plan(2, -1, 0), -1);
        due("no patch", s.plan(2, 7, 4), -1);
        due("patch -2", s.plan(2, 7, -2), -1);
        due("it changed nothing", s.plan(2, 7, 2), 1);
        due("another mirror", s.plan(1, 7, 2), -5);
    }

    private static void promise12() {
        promise = "12 judged";
        SunMirrors s = sunny("lit q<8;eyes p=3;turn 1");
        due("no plan", s.judged(), -5);
        planAll(s, 0, "00112211");
        due("it can be", s.judged(), -5);
        s.plan(2, 7, 3);
        due("eyes", s.judged(), 72);
        s.plan(1, 5, 0);
        due("one more patch", s.judged(), 72);
        s.plan(1, 6, 2);
        due("two apart: the later quarter", s.judged(), 61);
        s.plan(1, 5, -1);
        due("none between", s.judged(), 72);
        s.plan(1, 4, 0);
        due("over none it may turn", s.judged(), 72);
        s.plan(0, 3, 0);
        due("two apart the other way", s.judged(), 40);
        s.plan(2, 4, 3);
        due("the mirror's order", s.judged(), 40);
        s.plan(2, 3, 3);
        due("the quarter's order", s.judged(), 32);
        SunMirrors free = sunny("lit q<8");
        planAll(free, 0, "03030303");
        due("turn 9 without one", free.judged(), -5);
        read(free, "lit q<8;turn 3;turn 2");
        due("the last turn holds", free.judged(), 10);
        read(free, "lit q<8;turn 2;turn 3");
        due("as much as turn", free.judged(), -5);
        read(free, "lit q<8;turn 0");
        due("turn 0", free.judged(), 10);
        planAll(free, 0, "33333333");
        due("turn 0, none turns", free.judged(), -5);
        read(free, "turn 0");
        due("not lit", free.judged(), 0);
        planAll(free, 0, "-0------");
        due("not lit, patch 0", free.judged(), 10);
        SunMirrors down = sunny("lit q<8;turn 1");
        planAll(down, 0, "-0------");
        due("lit, patch 0", down.judged(), -5);
        planAll(down, 0, "20------");
        due("turned down to patch 0", down.judged(), 10);
    }

    private static void promise13() {
        promise = "13 has";
        SunMirrors s = sunny("lit q<6;own p=1&q>5;own q=0&m=99&h=0;eyes p=2&q=3");
        planAll(s, 0, "11111111");
        planAll(s, 1, "1-222222");
        due("HAS of two mirrors, lit alone", s.has(1, 0), 6 * 2 + 6);
        due("a great one, without the struck quarter", s.has(2, 0), 3 * 6);
        due("HAS nothing", s.has(0, 0), 0);
        due("OWN", s.has(1, 2), 1 + 64 + 128);
        due("OWN of all", s.has(0, 2), 1);
        due("DARK by own", s.has(0, 1), 254);
        due("DARK by own and light", s.has(1, 1), 0);
        due("DARK by light", s.has(2, 1), 255 - 1 - 4 - 16 - 32);
        due("what 3", s.has(0, 3), -1);
        due("what -1", s.has(0, -1), -1);
        due("no patch", s.has(4, 0), -1);
        due("patch -1", s.has(-1, 0), -1);
        read(s, "lit q<6;own d=1");
        due("OWN by the day", s.has(0, 2), 0);
        s.day();
        due("OWN on that day", s.has(0, 2), 255);
        SunMirrors twisted = sunny("lit q<8;turn 0");
        planAll(twisted, 0, "01010101");
        due("a turn too far is no matter", twisted.has(1, 0), 8);
    }

    private static void promise14() {
        promise = "14 worth";
        SunMirrors s = sunny("lit q<8");
        due("nothing planned", s.worth(0), 0);
        due("the least number", s.worth(1), 0);
        planAll(s, 0, "00112222");
        due("worth", s.worth(0), 2 * 2 + 2 * 4 + 4 * 6);
        due("worst", s.worth(1), 3);
        planAll(s, 2, "3-------");
        due("worth of a patch of none", s.worth(0), 36);
        due("of several the least", s.worth(1), 0);
        planAll(s, 1, "0-------");
        due("worst is 1", s.worth(1), 1);
        due("what 2", s.worth(2), -1);
        due("what -1", s.worth(-1), -1);
        SunMirrors none = new SunMirrors();
        due("no patches", none.worth(1), -5);
        due("no patches, worth", none.worth(0), 0);
        due("no patches, what 2", none.worth(2), -1);
    }

    private static String bestRow(SunMirrors s, int mirror) {
        StringBuilder row = new StringBuilder();
        for (int quarter = 0; quarter < 8; quarter++) {
            int patch = s.best(mirror, quarter);
            row.append(patch == -5 ? "-" : "" + patch);
        }
        return row.toString();
    }

    private static void dueRow(SunMirrors s, int mirror, int sum, String row) {
        due("best(" + mirror + ", -1)", s.best(mirror, -1), sum);
        String got = bestRow(s, mirror);
        due("best row " + got + " for " + row, got.equals(row) ? 1 : 0, 1);
    }

    private static void promise15() {
        promise = "15 best";
        SunMirrors s = sunny("lit q<8");
        dueRow(s, 0, 48, "22222222");
        dueRow(s, 1, 3 * 6 * 8, "22222222");
        read(s, "lit q<8;turn 1;eyes p=2&q>1;eyes p=1&q>3&q<6");
        dueRow(s, 0, 2 * (3 + 3 + 2 + 2 + 1 + 1 + 2 + 2), "22110011");
        read(s, "lit q<8;turn 0;eyes p=2&q=3;eyes p=1&q=7");
        dueRow(s, 0, 2 * 21, "222-2222");
        read(s, "lit q<8;turn 0;eyes p=2&!q=4;eyes p=0");
        dueRow(s, 2, 5 * 16, "11111111");
        read(s, "lit q=0|q=4;eyes p<3");
        dueRow(s, 0, 0, "--------");
        due("no mirror", s.best(3, 0), -1);
        due("mirror -1", s.best(-1, 0), -1);
        due("i 8", s.best(0, 8), -1);
        due("i -2", s.best(0, -2), -1);
        SunMirrors like = new SunMirrors();
        like.mirror(0, 0, make(0, 9, 1, 0));
        dueRow(like, 0, 0, "--------");
        like.patch(1000, 3, 0);
        like.patch(1100, 3, 0);
        like.patch(1200, 6, 0);
        read(like, "lit q<4;turn 1;eyes p=2&!q=3");
        dueRow(like, 0, 15, "0012----");
        planAll(like, 0, "22222222");
        dueRow(like, 0, 15, "0012----");
        read(like, "lit q=2|q=3;turn 0;eyes p=2&!q=3");
        dueRow(like, 0, 6, "---2----");
    }

    private static void promise16() {
        promise = "16 fair";
        SunMirrors none = new SunMirrors();
        due("nothing at all", none.fair(0), -5);
        due("what 2", none.fair(2), -1);
        none.mirror(0, 0, make(0, 9, 1, 0));
        due("no patches", none.fair(1), -5);
        SunMirrors bare = new SunMirrors();
        bare.patch(0, 0, 0);
        due("no mirrors", bare.fair(0), -5);
        SunMirrors s = new SunMirrors();
        for (int i = 1; i <= 3; i++) {
            s.mirror(0, 0, make(0, 9, i, 0));
        }
        s.patch(1000, 0, 0);
        s.patch(1100, 0, 0);
        due("not lit: the first pair", s.fair(0), 0);
        due("not lit", s.fair(1), 0);
        read(s, "lit q<8");
        due("one cannot serve both", s.fair(0), 0);
        planAll(s, 2, "11111111");
        due("the second takes patch 0, as 3 is taken", s.fair(0), 10);
        due("the least then", s.fair(1), 16);
        planAll(s, 1, "0000----");
        due("the first or the second make 16: the first", s.fair(0), 0);
        planAll(s, 0, "00000000");
        due("the second makes more", s.fair(0), 10);
        due("both have 24", s.fair(1), 24);
        due("the plan stays", s.has(0, 0), 16);
        planAll(s, 0, "--------");
        planAll(s, 1, "00000000");
        planAll(s, 2, "--------");
        due("the third takes patch 1", s.fair(0), 21);
        due("patch 0 has the least", s.fair(1), 16);
        due("what -1", s.fair(-1), -1);
    }

    private static void promise17() {
        promise = "17 take";
        SunMirrors none = new SunMirrors();
        due("no mirrors", none.take(300, 0), 0);
        SunMirrors s = new SunMirrors();
        int[] costs = {30, 20, 10, 10, 0, 5};
        for (int cost : costs) {
            s.mirror(0, 0, make(cost, 9, 1, 0));
        }
        due("not lit: the empty set", s.take(300, 0), 0);
        due("not lit: no cost", s.take(300, 2), 0);
        read(s, "lit m=0&q<4;lit m=1&q<2;lit m=2&q<2;lit m=3&q<2;lit m=5&q=7");
        due("all but the dark one", s.take(300, 0), 1 + 2 + 4 + 8 + 32);
        due("all quarters", s.take(300, 1), 11);
        due("all cost", s.take(300, 2), 75);
        due("of like ones the least cost, then the least bits", s.take(10, 0), 4);
        due("the sum", s.take(10, 1), 2);
        due("the cost", s.take(10, 2), 10);
        due("three small ones, not the first", s.take(34, 0), 12 + 32);
        due("their cost", s.take(34, 2), 25);
        due("with the last one", s.take(25, 0), 12 + 32);
        due("to the last coin", s.take(15, 0), 4 + 32);
        due("a coin less", s.take(14, 0), 4);
        due("no coin", s.take(0, 0), 0);
        due("what 3", s.take(10, 3), -1);
        due("what -1", s.take(10, -1), -1);
        due("coin 301", s.take(301, 0), -2);
        due("coin -1", s.take(-1, 0), -2);
        due("both", s.take(301, 3), -1);
        SunMirrors two = new SunMirrors();
        two.mirror(0, 0, make(20, 9, 1, 0));
        two.mirror(0, 0, make(10, 9, 9, 0));
        read(two, "lit q<2");
        due("of like ones the least cost, not the least bits", two.take(20, 0), 2);
        due("both for 30", two.take(30, 0), 3);
    }

    private static void promise18() {
        promise = "18 coarse";
        SunMirrors s = new SunMirrors();
        for (int patch = 0; patch < 6; patch++) {
            s.mirror(patch < 5 ? 2 : 0, 0, make(0, 9, 1, patch));
        }
        due("no patches: all", s.coarse(1), 63);
        for (int patch = 0; patch < 6; patch++) {
            s.patch(1000 + patch, 0, 0);
        }
        due("not lit: all", s.coarse(1), 63);
        read(s, "lit q=7");
        due("1", s.coarse(1), 0);
        due("2", s.coarse(2), 2 + 8);
        due("3", s.coarse(3), 2 + 4 + 16);
        due("4", s.coarse(4), 2 + 4 + 8);
        due("5", s.coarse(5), 2 + 4 + 8 + 16);
        due("9", s.coarse(9), 2 + 4 + 8 + 16);
        due("0", s.coarse(0), -2);
        due("10", s.coarse(10), -2);
        due("-1", s.coarse(-1), -2);
    }

    private static void dueFraction(SunMirrors s, int patch, int k, long above, long below) {
        due("kept(" + patch + ", " + k + ", 0)", s.kept(patch, k, 0), above);
        due("kept(" + patch + ", " + k + ", 1)", s.kept(patch, k, 1), below);
    }

    private static void promise19() {
        promise = "19 kept";
        SunMirrors s = sunny("lit q<8;cloud 3");
        dueFraction(s, 0, 0, 1, 1);
        dueFraction(s, 0, 1, 0, 1);
        planAll(s, 0, "00------");
        planAll(s, 1, "0-------");
        dueFraction(s, 0, 0, 1, 1);
        dueFraction(s, 0, 1, 91, 100);
        dueFraction(s, 0, 2, 49, 100);
        dueFraction(s, 0, 3, 0, 1);
        dueFraction(s, 0, 8, 0, 1);
        planAll(s, 2, "11111111");
        dueFraction(s, 1, 8, 5764801, 100000000);
        dueFraction(s, 1, 7, 8 * 823543L * 3 + 5764801, 100000000);
        read(s, "lit q<3;cloud 2;cloud 5");
        dueFraction(s, 1, 2, 1, 2);
        dueFraction(s, 1, 3, 1, 8);
        dueFraction(s, 1, 1, 7, 8);
        read(s, "lit q<3");
        dueFraction(s, 1, 3, 1, 1);
        dueFraction(s, 1, 4, 0, 1);
        read(s, "lit q<3;cloud 10");
        dueFraction(s, 1, 0, 1, 1);
        dueFraction(s, 1, 1, 0, 1);
        read(s, "lit q<3;cloud 99");
        dueFraction(s, 1, 0, 1, 1);
        dueFraction(s, 1, 1, 0, 1);
        due("no patch", s.kept(4, 0, 0), Long.MIN_VALUE);
        due("patch -1", s.kept(-1, 0, 0), Long.MIN_VALUE);
        due("k 9", s.kept(1, 9, 0), Long.MIN_VALUE);
        due("k -1", s.kept(1, -1, 0), Long.MIN_VALUE);
        due("part 2", s.kept(1, 1, 2), Long.MIN_VALUE);
        due("part -1", s.kept(1, 1, -1), Long.MIN_VALUE);
    }

    private static void promise20() {
        promise = "20 gone";
        SunMirrors s = sunny("lit q<8;own p=1&d>2&q<2");
        due("no snow", s.gone(2), 0);
        due("no sun", s.gone(0), -5);
        due("own sun on later days", s.gone(1), 6);
        due("no patch", s.gone(4), -1);
        due("patch -1", s.gone(-1), -1);
        planAll(s, 0, "33------");
        due("twenty by two a day", s.gone(3), 10);
        planAll(s, 1, "3-------");
        due("two at one quarter are one", s.gone(3), 10);
        planAll(s, 0, "-3------");
        planAll(s, 1, "--------");
        due("twenty by one a day", s.gone(3), 20);
        due("nothing changed", s.is(3, 3), 20);
        due("nor the day", s.count(4), 0);
        read(s, "lit q<8&d>9");
        due("by just 30 days", s.gone(3), 30);
        read(s, "lit q<8&d>10");
        due("not by 30 days", s.gone(3), -5);
        read(s, "lit d>90&q=1");
        for (int day = 0; day < 89; day++) {
            s.day();
        }
        due("beyond day 89", s.gone(3), 22);
        planAll(s, 0, "--------");
        due("no plan", s.gone(3), -5);
    }

    private static void promise21() {
        promise = "21 day";
        SunMirrors s = sunny("lit q<6;own p=1&d=0&q>4;own p=0&d=1");
        planAll(s, 0, "11------");
        planAll(s, 1, "3-333333");
        planAll(s, 2, "3-------");
        due("the first", s.day(), 1);
        due("own sun alone, of that day", s.is(0, 3), 8);
        due("own and light, to 0", s.is(1, 3), 0);
        due("no snow", s.is(2, 3), 0);
        due("two at one quarter are one", s.is(3, 3), 15);
        due("the second", s.day(), 2);
        due("own sun of day 1", s.is(0, 3), 0);
        due("light", s.is(3, 3), 10);
        for (int day = 3; day <= 89; day++) {
            due("day", s.day(), day);
        }
        due("day 89", s.day(), -3);
        due("it stays", s.count(4), 89);
    }

    private static void promise22() {
        promise = "22 passed";
        SunMirrors s = new SunMirrors();
        s.mirror(0, 0, make(0, 10, 1, 0));
        s.mirror(5, 2000, make(0, 30, 1, 9));
        s.mirror(5, 2000, make(0, 20, 1, 9));
        s.mirror(2, 2000, make(0, 40, 1, 0));
        s.patch(2040, 0, 0);
        s.patch(4000, 0, 0);
        due("not lit", s.passed(0, 0, 0), -5);
        read(s, "lit q=1&m=0;lit m=1&q=2;eyes q<8");
        due("lit, by the least; may, eyes and its own lit are not asked", s.passed(0, 0, 1), 1);
        due("at another quarter", s.passed(0, 0, 2), -5);
        due("a passing one by another", s.passed(1, 0, 2), 2);
        due("not by itself", s.passed(2, 0, 2), -5);
        s.wall(1000, 1040, 20);
        due("evenly from 10 to 30 there is 20", s.passed(0, 0, 1), 1);
        s.wall(1001, 1040, 40);
        due("a wall beside", s.passed(0, 0, 1), 1);
        s.wall(1500, 1540, 25);
        due("25 there", s.passed(0, 0, 1), 1);
        s.wall(1600, 1640, 27);
        due("26 there is lower", s.passed(0, 0, 1), -5);
        SunMirrors t = new SunMirrors();
        t.mirror(1, 0, make(0, 40, 1, 0));
        t.mirror(5, 0, make(0, 10, 1, 3));
        t.mirror(5, 1000, make(0, 20, 1, 3));
        t.patch(4000, 0, 0);
        read(t, "lit m=0");
        due("at one point no wall is between", t.passed(0, 0, 0), 1);
        t.wall(500, 540, 9);
        due("the way on is not free", t.passed(0, 0, 0), 2);
        t.wall(0, 1, 40);
        due("at one point, but from 40 down no lower", t.passed(0, 0, 0), 2);
        t.wall(1000, 1001, 21);
        due("through the second one", t.passed(0, 0, 0), -5);
        due("no mirror", t.passed(3, 0, 0), -1);
        due("mirror -1", t.passed(-1, 0, 0), -1);
        due("no patch", t.passed(0, 1, 0), -1);
        due("patch -1", t.passed(0, -1, 0), -1);
        due("quarter 8", t.passed(0, 0, 8), -1);
        due("quarter -1", t.passed(0, 0, -1), -1);
        SunMirrors one = new SunMirrors();
        one.mirror(0, 1010, make(0, 10, 1, 0));
        one.mirror(5, 1010, make(0, 12, 1, 0));
        one.patch(4010, 0, 0);
        one.wall(1000, 1020, 12);
        read(one, "lit q<8");
        due("a wall through both at one point is not between", one.passed(0, 0, 0), 1);
        one.wall(1000, 1020, 13);
        due("but it is on the way on", one.passed(0, 0, 0), -5);
        SunMirrors first = new SunMirrors();
        first.mirror(5, 0, make(0, 10, 1, 0));
        first.mirror(1, 1000, make(0, 10, 1, 0));
        first.patch(4010, 0, 0);
        read(first, "lit q=7");
        due("by mirror 0", first.passed(1, 0, 7), 0);
    }

    private static SunMirrors patches(int size) {
        SunMirrors s = new SunMirrors();
        for (int patch = 0; patch < size; patch++) {
            s.patch(0, 0, 0);
        }
        return s;
    }

    private static void promise23() {
        promise = "23 vote";
        SunMirrors none = new SunMirrors();
        due("no patches", none.vote(0), -3);
        due("no patches, bad digits", none.vote(-1), -3);
        SunMirrors s = patches(1);
        due("one patch", s.vote(0), 1);
        due("no such patch", s.vote(1), -2);
        s.patch(0, 0, 0);
        due("one came", s.vote(10), -3);
        due("one came, bad digits", s.vote(77), -3);
        s.clear();
        due("behind clear()", s.vote(10), 1);
        due("a 0 ahead", s.vote(1), 2);
        due("twice", s.vote(11), -2);
        due("twice 0", s.vote(0), -2);
        due("too many", s.vote(110), -2);
        due("too many by 10 to the third", s.vote(1001), -2);
        due("-1", s.vote(-1), -2);
        due("-10", s.vote(-10), -2);
        due("least", s.vote(Integer.MIN_VALUE), -2);
        due("greatest", s.vote(Integer.MAX_VALUE), -2);
        due("count(5)", s.count(5), 2);
        for (int row = 3; row <= 5; row++) {
            due("a row", s.vote(10), row);
        }
        due("a sixth", s.vote(10), -4);
        due("a sixth, bad", s.vote(12), -2);
        due("count(5)", s.count(5), 5);
        due("bad and full ones count nothing: 4 of 5", s.holds(0), 1);
        SunMirrors six = patches(6);
        due("six", six.vote(543210), 1);
        due("six, a 0 ahead", six.vote(12345), 2);
        due("six, one missing", six.vote(543211), -2);
        due("six, no such one", six.vote(643210), -2);
        s.patch(0, 0, 0);
        due("one came, full", s.vote(210), -3);
    }

    private static void promise24() {
        promise = "24 clear";
        SunMirrors s = patches(2);
        due("no rows", s.clear(), 0);
        s.vote(10);
        s.vote(10);
        s.vote(10);
        due("three", s.clear(), 3);
        due("count(5)", s.count(5), 0);
        due("none is left", s.clear(), 0);
        due("no rows", s.holds(0), -3);
        s.vote(1);
        due("the old rows are gone", s.holds(0), 0);
        s.clear();
        s.vote(10);
        due("they are gone the other way, too", s.holds(0), 1);
    }

    private static void promise25() {
        promise = "25 holds";
        SunMirrors s = patches(3);
        due("no rows", s.holds(0), -3);
        due("no rows, order", s.holds(12), -3);
        due("no such order", s.holds(13), -1);
        due("no such what", s.holds(2), -1);
        due("what 9", s.holds(9), -1);
        due("what 19", s.holds(19), -1);
        due("what 23", s.holds(23), -1);
        due("what -1", s.holds(-1), -1);
        due("the least what", s.holds(Integer.MIN_VALUE), -1);
        s.vote(210);
        due("beats all", s.holds(0), 2);
        due("no ring", s.holds(1), -5);
        due("order 0", s.holds(10), 2);
        due("order 1", s.holds(11), 1);
        due("order 2", s.holds(12), 0);
        due("0 beats", s.holds(20), 0);
        due("1 beats", s.holds(21), 1);
        due("2 beats", s.holds(22), 2);
        s.vote(12);
        due("half is not more than half", s.holds(0), -5);
        due("like ones by numbers", s.holds(10), 0);
        due("like ones by numbers, last", s.holds(12), 2);
        due("none beats", s.holds(22), 0);
        s.vote(120);
        due("two of three", s.holds(0), 1);
        SunMirrors ring = patches(3);
        ring.vote(12);
        ring.vote(120);
        ring.vote(201);
        due("a ring: none holds", ring.holds(0), -5);
        due("a ring", ring.holds(1), 12);
        due("like ones", ring.holds(11), 1);
        SunMirrors other = patches(4);
        other.vote(3021);
        other.vote(3210);
        other.vote(3102);
        due("the ring the other way", other.holds(1), 21);
        due("the one ahead of all holds", other.holds(0), 3);
        due("order", other.holds(10), 3);
        SunMirrors low = patches(4);
        low.vote(1230);
        low.vote(2310);
        low.vote(3120);
        due("the ring without 0", low.holds(1), 123);
        SunMirrors late = patches(5);
        late.vote(14230);
        late.vote(42301);
        late.vote(23014);
        // 1 beats 4, 4 beats 2 and 3 ...: 0 comes in no ring unless it beats one that comes round.
        due("a ring among others", late.holds(1), ringOf(new String[] {"14230", "42301", "23014"}));
        late.patch(0, 0, 0);
        due("a patch came", late.holds(0), -3);
        due("a patch came, its order", late.holds(15), -3);
        due("a patch came, no such order", late.holds(16), -1);
        late.clear();
        due("no rows", late.holds(0), -3);
        SunMirrors one = patches(1);
        one.vote(0);
        due("one alone holds", one.holds(0), 0);
        due("one alone is no ring", one.holds(1), -5);
        due("one alone is the first", one.holds(10), 0);
        due("one alone beats none", one.holds(20), 0);
    }

    private static int ringOf(String[] rows) {
        for (int ring = 0; ring < 1000; ring++) {
            char a = (char) ('0' + ring / 100);
            char b = (char) ('0' + ring / 10 % 10);
            char c = (char) ('0' + ring % 10);
            if (beats(rows, a, b) && beats(rows, b, c) && beats(rows, c, a)) return ring;
        }
        return -5;
    }

    private static boolean beats(String[] rows, char a, char b) {
        int ahead = 0;
        for (String row : rows) {
            if (row.indexOf(a) >= 0 && row.indexOf(a) < row.indexOf(b)) ahead++;
        }
        return 2 * ahead > rows.length;
    }

    /** Mirror i is of KIND i, but for 0 and 1, which are PASSING and MIRROR; v is 3 each. */
    private static SunMirrors kinds() {
        SunMirrors s = new SunMirrors();
        int[] kinds = {5, 0, 2, 3, 4, 6};
        for (int kind : kinds) {
            s.mirror(kind, 0, make(0, 9, 1, 3));
        }
        return s;
    }

    private static void dueAct(SunMirrors s, int mirror, int act, int x, int want, int... bodies) {
        due("act(" + mirror + ", " + act + ", " + x + ")", s.act(mirror, act, x), want);
        for (int i = 0; i < bodies.length; i++) {
            due("trace(" + i + ") of act(" + mirror + ", " + act + ", " + x + ")", s.trace(i), bodies[i]);
        }
        due("no trace behind", s.trace(bodies.length), -1);
        due("count(7)", s.count(7), bodies.length);
    }

    private static void promise26() {
        promise = "26 act";
        SunMirrors s = kinds();
        dueAct(s, 1, 0, 10, 11, 1);
        dueAct(s, 1, 1, 10, 8, 2, 1);
        dueAct(s, 1, 2, 10, 16, 3, 2, 1);
        dueAct(s, 2, 0, 10, 12, 1);
        dueAct(s, 2, 1, 10, -9, 21, 2, 1);
        dueAct(s, 2, 2, 10, -18, 3, 21, 2, 1);
        dueAct(s, 3, 0, 10, 33, 11, 1);
        dueAct(s, 3, 1, 10, 30, 2, 11, 1);
        dueAct(s, 3, 2, 10, 60 ^ 7, 31, 3, 2, 11, 1);
        dueAct(s, 4, 0, 10, 34, 11, 1);
        dueAct(s, 4, 2, 10, 2 * (27 + 4 - 3) + 10, 41, 3, 2, 11, 1, 11, 1);
        dueAct(s, 5, 0, 10, 15, 1);
        dueAct(s, 5, 1, 10, -9, 61, 21, 2, 1);
        dueAct(s, 5, 2, 10, -18, 3, 61, 21, 2, 1);
        dueAct(s, 0, 0, 10, 10, 51, 1);
        dueAct(s, 0, 1, 10, -7, 21, 2, 51, 1);
        SunMirrors two = new SunMirrors();
        two.mirror(1, 0, make(0, 9, 1, 5));
        two.mirror(5, 0, make(0, 9, 1, 9));
        dueAct(two, 0, 1, 4, 7, 2, 11, 1);
        dueAct(two, 1, 0, 10, 11 ^ 1, 51, 1);
        dueAct(two, 1, 2, 10, -2, 3, 21, 2, 51, 1);
        dueAct(s, 1, 0, Integer.MAX_VALUE, Integer.MIN_VALUE, 1);
        dueAct(s, 3, 0, Integer.MAX_VALUE, Integer.MAX_VALUE * 3 + 3, 11, 1);
        dueAct(s, 4, 2, Integer.MIN_VALUE, 2 * (3 * Integer.MAX_VALUE + 1) + 10, 41, 3, 2, 11, 1, 11, 1);
        dueAct(s, 6, 0, 5, 0);
        s.act(1, 0, 0);
        dueAct(s, -1, 0, 5, 0);
        s.act(1, 0, 0);
        dueAct(s, 1, 3, 5, 0);
        s.act(1, 0, 0);
        dueAct(s, 1, -1, 5, 0);
    }

    private static void promise27() {
        promise = "27 trace";
        SunMirrors s = kinds();
        due("no act yet", s.trace(0), -1);
        s.act(4, 2, 0);
        due("the first", s.trace(0), 41);
        due("the last", s.trace(6), 1);
        due("behind", s.trace(7), -1);
        due("-1", s.trace(-1), -1);
        due("20", s.trace(20), -1);
        due("the greatest", s.trace(Integer.MAX_VALUE), -1);
        s.act(1, 0, 0);
        due("the latest alone", s.trace(1), -1);
        due("the latest", s.trace(0), 1);
    }

    private static void promise28() {
        promise = "28 as";
        SunMirrors s = new SunMirrors();
        int[] under = {1, 1 + 2, 1 + 4, 1 + 2 + 8, 1 + 2 + 16, 1 + 4 + 32, 1 + 4 + 64};
        for (int kind = 0; kind < 7; kind++) {
            SunMirrors one = new SunMirrors();
            one.mirror(kind, 0, make(0, 9, 1, kind + 2));
            for (int k = 0; k < 7; k++) {
                boolean is = (under[kind] >> k & 1) == 1;
                due("kind " + kind + " as " + k, one.as(0, k), is ? kind + 2 : -6);
            }
            due("k 7", one.as(0, 7), -1);
            due("k -1", one.as(0, -1), -1);
            due("no mirror", one.as(1, 0), -1);
            due("mirror -1", one.as(-1, 0), -1);
        }
        due("none at all", s.as(0, 0), -1);
    }

    private static void promise29() {
        promise = "29 image";
        SunMirrors s = new SunMirrors();
        due("no mirrors", s.image(), 0);
        due("undo()", s.undo(), 0);
        s.mirror(0, 0, make(0, 9, 1, 0));
        s.mirror(0, 0, make(0, 9, 1, 0));
        due("two", s.image(), 2);
        s.mirror(0, 0, make(0, 9, 1, 0));
        due("the newest image holds", s.undo(), 2);
    }

    private static void promise30() {
        promise = "30 undo";
        SunMirrors s = new SunMirrors();
        due("no image", s.undo(), -3);
        s.mirror(0, 0, make(7, 9, 1, 0));
        s.patch(1000, 4, 20);
        s.patch(1100, 4, 20);
        s.wall(3000, 3040, 40);
        read(s, "lit q<4;turn 2;cloud 5");
        planAll(s, 0, "0000----");
        s.day();
        s.vote(10);
        feed(s, "lit ");
        s.image();
        s.mirror(1, 0, make(0, 9, 1, 0));
        s.act(0, 1, 5);
        change(s);
        due("undo()", s.undo(), 1);
        dueAsImage(s);
        due("the trace stays", s.trace(0), 2);
        due("count(7) stays", s.count(7), 2);
        change(s);
        due("undo() once more", s.undo(), 1);
        dueAsImage(s);
        due("the tape is as it was", read(s, "q=7"), 1);
        due("the valley is another", s.can(0, 0, 0), 128);
        s.undo();
        due("the valley is the first", s.can(0, 0, 0), 15);
        due("a new mirror", s.mirror(4, 0, make(0, 9, 1, 5)), 1);
        due("it is the new one", s.of(1, 6), 5);
        due("its plan is none", s.plan(1, 0, 0), -5);
        s.undo();
        s.mirror(4, 0, make(0, 9, 1, 6));
        due("its plan is none again", s.plan(1, 0, 0), -5);
    }

    private static void change(SunMirrors s) {
        s.mirror(1, 0, make(0, 9, 1, 0));
        s.plan(1, 0, 0);
        s.vote(1);
        s.vote(1);
        s.patch(1200, 0, 0);
        s.wall(500, 540, 40);
        s.plan(0, 0, 2);
        s.plan(0, 5, 1);
        s.valley();
        read(s, "lit q=5");
        feed(s, "something else");
        s.day();
        s.day();
    }

    private static void dueAsImage(SunMirrors s) {
        int[] counts = {1, 2, 1, 1, 1, 1, 4};
        for (int what = 0; what < counts.length; what++) {
            due("count(" + what + ")", s.count(what), counts[what]);
        }
        due("snow", s.is(0, 3), 16);
        due("lit", s.can(0, 0, 1), 15);
        due("light", s.has(0, 0), 4);
        due("dark", s.has(1, 1), 255);
        due("clouds", s.kept(0, 4, 1), 16);
        due("votes", s.holds(0), 1);
        due("the third patch", s.is(2, 0), -1);
        due("the second mirror", s.of(1, 0), -1);
    }

    private static void promise31() {
        promise = "31 count";
        SunMirrors s = kinds();
        s.patch(0, 0, 0);
        s.patch(0, 0, 0);
        s.wall(0, 1, 1);
        read(s, "lit q=1");
        read(s, "lit q=2");
        read(s, "lit q=3");
        s.day();
        s.day();
        s.day();
        s.day();
        s.vote(10);
        feed(s, "abcdefgh");
        s.act(4, 2, 0);
        int[] counts = {6, 2, 1, 3, 4, 1, 8, 7};
        for (int what = 0; what < 8; what++) {
            due("count(" + what + ")", s.count(what), counts[what]);
        }
        due("count(8)", s.count(8), -1);
        due("count(-1)", s.count(-1), -1);
    }
}
