import java.math.BigInteger;
import java.util.ArrayList;
import java.util.Arrays;
import java.util.List;
import java.util.TreeMap;

/** A second, slow writing of the document, by other ways than the class's: RandomRuns holds the class against it. */
final class Model {
    static final int NONE = -1, BAD = -2, STATE = -3, FULL = -4;
    static final long NO = Long.MIN_VALUE;

    record Mirror(int kind, int number, int x, int y, int height, int size, int cost, int v) { }

    record Wall(int ax, int ay, int bx, int by, int height) { }

    /** All that an image takes; every list is replaced as a whole, so that a shallow copy is a copy. */
    static final class World implements Cloneable {
        List<Mirror> mirrors = List.of();
        List<int[]> patches = List.of();
        List<Wall> walls = List.of();
        List<String> valleys = List.of();
        List<String> ballots = List.of();
        String tape = "";
        TreeMap<Integer, Integer> plan = new TreeMap<>();
        int day = 0;
        int patchesAtFirstBallot = 0;

        World copy() {
            try {
                World copy = (World) clone();
                copy.plan = new TreeMap<>(plan);
                copy.patches = patches.stream().map(int[]::clone).toList();
                return copy;
            } catch (CloneNotSupportedException e) {
                throw new IllegalStateException(e);
            }
        }
    }

    private World world = new World();
    private World image = null;
    private List<Integer> trace = new ArrayList<>();

    private static <T> List<T> with(List<T> list, T last) {
        List<T> longer = new ArrayList<>(list);
        longer.add(last);
        return longer;
    }

    private boolean noMirror(int m) {
        return m < 0 || m >= world.mirrors.size();
    }

    private boolean noPatch(int p) {
        return p < 0 || p >= world.patches.size();
    }

    private static boolean noPoint(int at) {
        return at < 0 || at % 100 > 40 || at / 100 > 40;
    }

    int mirror(int kind, int at, int is) {
        if (kind < 0 || kind > 6) return NONE;
        if (noPoint(at) || is < 0) return BAD;
        String digits = String.format("%06d", is);
        if (digits.length() > 6) return BAD;
        int cost = Integer.parseInt(digits.substring(0, 2));
        int height = Integer.parseInt(digits.substring(2, 4));
        int size = digits.charAt(4) - '0';
        if (height < 1 || height > 40 || size < 1) return BAD;
        if (world.mirrors.size() == 6) return FULL;
        int number = world.mirrors.size();
        world.mirrors = with(world.mirrors, new Mirror(kind, number, at / 100, at % 100, height, size, cost, digits.charAt(5) - '0'));
        return number;
    }

    int patch(int at, int worth, int snow) {
        if (noPoint(at) || worth < 0 || worth > 20 || snow < 0 || snow > 20) return BAD;
        if (world.patches.size() == 6) return FULL;
        world.patches = with(world.patches, new int[] {at / 100, at % 100, worth, snow});
        return world.patches.size() - 1;
    }

    int wall(int from, int to, int height) {
        if (noPoint(from) || noPoint(to) || height < 1 || height > 40) return BAD;
        if (world.walls.size() == 8) return FULL;
        world.walls = with(world.walls, new Wall(from / 100, from % 100, to / 100, to % 100, height));
        return world.walls.size() - 1;
    }

    int of(int m, int what) {
        if (noMirror(m) || what < 0 || what > 6) return NONE;
        Mirror a = world.mirrors.get(m);
        return new int[] {a.kind, a.x, a.y, a.height, a.size, a.cost, a.v}[what];
    }

    int is(int p, int what) {
        return noPatch(p) || what < 0 || what > 3 ? NONE : world.patches.get(p)[what];
    }

    int feed(long w, int n) {
        if (n < 1 || n > 8) return BAD;
        if (world.tape.length() + n > 120) return FULL;
        String all = String.format("%016x", w);
        for (int i = 8 - n; i < 8; i++) {
            world.tape += (char) Integer.parseInt(all.substring(2 * i, 2 * i + 2), 16);
        }
        return world.tape.length();
    }

    int valley() {
        if (world.valleys.size() == 5) return FULL;
        String text = world.tape;
        world.tape = "";
        if (!isValley(text)) return -10 - fault(text);
        world.valleys = with(world.valleys, text);
        return world.valleys.size() - 1;
    }

    /** The longest beginning that some ending makes a VALLEY of. */
    private static int fault(String text) {
        int place = 0;
        while (place < text.length() && canGoOn(text.substring(0, place + 1))) place++;
        return place;
    }

    private static boolean canGoOn(String beginning) {
        for (String clause : List.of("lit m=1", "eyes m=1", "own m=1", "cloud 1", "turn 1")) {
            for (int from = 0; from <= clause.length(); from++) {
                String more = clause.substring(from);
                for (int closed = 0; closed <= 5; closed++) {
                    if (isValley(beginning + more + ")".repeat(closed))) return true;
                }
            }
        }
        return false;
    }

    private static boolean isValley(String text) {
        String[] clauses = text.split(";", -1);
        if (clauses.length > 10) return false;
        for (String clause : clauses) {
            boolean set = clause.matches("(cloud|turn) (0|[1-9][0-9]?)");
            boolean rule = clause.matches("(?s)(lit|eyes|own) .*") && isRule(clause.substring(clause.indexOf(' ') + 1));
            if (!set && !rule) return false;
        }
        return true;
    }

    private static boolean isRule(String text) {
        if (text.contains("T")) return false;
        String tests = text.replaceAll("[mpqdh][<=>](0|[1-9][0-9]?)(?![0-9])", "T");
        return mostOpen(tests) <= 5 && reduced(tests).equals("T");
    }

    private static String reduced(String tests) {
        String shorter = tests.replace("!T", "T").replace("(T)", "T").replace("T&T", "T").replace("T|T", "T");
        return shorter.equals(tests) ? tests : reduced(shorter);
    }

    private static int mostOpen(String tests) {
        int most = 0;
        StringBuilder open = new StringBuilder();
        for (char sign : tests.toCharArray()) {
            if (sign == '!' || sign == '(') open.append(sign);
            most = Math.max(most, open.length());
            if (sign == ')' && open.length() > 0) open.setLength(open.length() - 1);
            if (sign == ')' || sign == 'T') {
                while (open.length() > 0 && open.charAt(open.length() - 1) == '!') open.setLength(open.length() - 1);
            }
        }
        return most;
    }

    private List<String> clauses() {
        return world.valleys.isEmpty() ? List.of() : List.of(world.valleys.get(world.valleys.size() - 1).split(";"));
    }

    private int setting(String word, int without) {
        int last = without;
        for (String clause : clauses()) {
            if (clause.startsWith(word + " ")) last = Integer.parseInt(clause.substring(word.length() + 1));
        }
        return last;
    }

    private int cloud() {
        return Math.min(10, setting("cloud", 0));
    }

    private boolean some(String word, int m, int p, int q, int d, int h) {
        for (String clause : clauses()) {
            if (clause.startsWith(word + " ") && truth(clause.substring(word.length() + 1), m, p, q, d, h)) return true;
        }
        return false;
    }

    private static int outside(String e, char sign) {
        int deep = 0;
        for (int i = 0; i < e.length(); i++) {
            if (e.charAt(i) == '(') deep++;
            if (e.charAt(i) == ')') deep--;
            if (deep == 0 && e.charAt(i) == sign) return i;
        }
        return -1;
    }

    private static boolean truth(String e, int m, int p, int q, int d, int h) {
        int or = outside(e, '|');
        if (or >= 0) return truth(e.substring(0, or), m, p, q, d, h) || truth(e.substring(or + 1), m, p, q, d, h);
        int and = outside(e, '&');
        if (and >= 0) return truth(e.substring(0, and), m, p, q, d, h) && truth(e.substring(and + 1), m, p, q, d, h);
        if (e.charAt(0) == '!') return !truth(e.substring(1), m, p, q, d, h);
        if (e.charAt(0) == '(') return truth(e.substring(1, e.length() - 1), m, p, q, d, h);
        int value = switch (e.charAt(0)) {
            case 'm' -> m;
            case 'p' -> p;
            case 'q' -> q;
            case 'd' -> d;
            default -> h;
        };
        int number = Integer.parseInt(e.substring(2));
        return e.charAt(1) == '<' ? value < number : e.charAt(1) == '=' ? value == number : value > number;
    }

    private boolean lit(Mirror a, int q) {
        return some("lit", a.number, 99, q, world.day, a.height);
    }

    private boolean own(int p, int q) {
        return some("own", 99, p, q, world.day, 0);
    }

    private static long side(long ax, long ay, long bx, long by, long x, long y) {
        return (bx - ax) * (y - ay) - (by - ay) * (x - ax);
    }

    private boolean between(int x, int y, int height, int toX, int toY, int toHeight) {
        for (Wall w : world.walls) {
            long from = side(w.ax, w.ay, w.bx, w.by, x, y);
            long to = side(w.ax, w.ay, w.bx, w.by, toX, toY);
            long a = side(x, y, toX, toY, w.ax, w.ay);
            long b = side(x, y, toX, toY, w.bx, w.by);
            // Both ends are as far to one side: parallel, or a point is one of both.
            if (from == to || Long.signum(from) * Long.signum(to) > 0 || Long.signum(a) * Long.signum(b) > 0) continue;
            BigInteger there = BigInteger.valueOf(height * (from - to) + (toHeight - height) * from);
            BigInteger top = BigInteger.valueOf(w.height * (from - to));
            if (from - to > 0 ? there.compareTo(top) < 0 : there.compareTo(top) > 0) return true;
        }
        return false;
    }

    private boolean wayFree(Mirror a, int p) {
        int[] place = world.patches.get(p);
        return !between(a.x, a.y, a.height, place[0], place[1], 0);
    }

    private boolean may(Mirror a, int p) {
        int[] place = world.patches.get(p);
        boolean apart = a.x != place[0] || a.y != place[1];
        return switch (a.kind) {
            case 0 -> true;
            case 1 -> apart;
            case 3 -> apart && a.y - place[1] <= a.v && place[1] - a.y <= a.v;
            case 4 -> apart && (a.x - place[0] >= a.v || place[0] - a.x >= a.v);
            case 6 -> p != a.v;
            default -> p == a.v;
        };
    }

    private boolean able(Mirror a, int p, int q) {
        return lit(a, q) && may(a, p) && wayFree(a, p) && !some("eyes", a.number, p, q, world.day, a.height);
    }

    private static int light(Mirror a) {
        return a.kind == 4 ? 2 * a.size : a.size;
    }

    private int planned(int m, int q) {
        return world.plan.getOrDefault(10 * m + q, -1);
    }

    private int lightAt(int p, int q) {
        int sum = 0;
        for (Mirror a : world.mirrors) {
            if (planned(a.number, q) == p && able(a, p, q)) sum += light(a);
        }
        return sum;
    }

    private int lightOf(int p) {
        int sum = 0;
        for (int q = 0; q < 8; q++) sum += lightAt(p, q);
        return sum;
    }

    int free(int m, int p) {
        return noMirror(m) || noPatch(p) ? NONE : wayFree(world.mirrors.get(m), p) ? 1 : 0;
    }

    int can(int m, int p, int what) {
        if (noMirror(m) || noPatch(p) || what < 0 || what > 1) return NONE;
        int bits = 0;
        Mirror a = world.mirrors.get(m);
        for (int q = 0; q < 8; q++) {
            if (what == 0 ? lit(a, q) : able(a, p, q)) bits += 1 << q;
        }
        return bits;
    }

    int plan(int m, int q, int p) {
        if (noMirror(m) || q < 0 || q > 7 || p != -1 && noPatch(p)) return NONE;
        int was = planned(m, q);
        world.plan.put(10 * m + q, p);
        return was == -1 ? -5 : was;
    }

    private boolean tooFar(int a, int b) {
        return a != -1 && b != -1 && Math.abs(a - b) > setting("turn", 9);
    }

    int judged() {
        for (int q = 0; q < 8; q++) {
            for (Mirror a : world.mirrors) {
                int p = planned(a.number, q);
                if (p == -1) continue;
                if (!able(a, p, q) || q > 0 && tooFar(p, planned(a.number, q - 1))) return 10 * q + a.number;
            }
        }
        return -5;
    }

    int has(int p, int what) {
        if (noPatch(p) || what < 0 || what > 2) return NONE;
        if (what == 0) return lightOf(p);
        int bits = 0;
        for (int q = 0; q < 8; q++) {
            if (what == 1 ? !own(p, q) && lightAt(p, q) == 0 : own(p, q)) bits += 1 << q;
        }
        return bits;
    }

    int worth(int what) {
        if (what < 0 || what > 1) return NONE;
        int sum = 0;
        int worst = -5;
        for (int p = 0; p < world.patches.size(); p++) {
            sum += world.patches.get(p)[2] * lightOf(p);
            if (worst == -5 || lightOf(p) < lightOf(worst)) worst = p;
        }
        return what == 0 ? sum : worst;
    }

    /** Goes through all rows in their order, and keeps the first of the greatest. */
    private final class Rows {
        final Mirror mirror;
        final boolean[][] able = new boolean[6][8];
        final int[] row = new int[8];
        int[] best = null;
        int most = -1;

        Rows(Mirror mirror) {
            this.mirror = mirror;
            for (int p = 0; p < world.patches.size(); p++) {
                for (int q = 0; q < 8; q++) able[p][q] = able(mirror, p, q);
            }
            go(0, 0, setting("turn", 9));
        }

        private void go(int q, int sum, int turn) {
            if (q == 8) {
                if (sum > most) {
                    most = sum;
                    best = row.clone();
                }
                return;
            }
            for (int p = -1; p < world.patches.size(); p++) {
                if (p >= 0 && (!able[p][q] || q > 0 && row[q - 1] >= 0 && Math.abs(p - row[q - 1]) > turn)) continue;
                row[q] = p;
                go(q + 1, p < 0 ? sum : sum + world.patches.get(p)[2] * light(mirror), turn);
            }
        }
    }

    int best(int m, int i) {
        if (noMirror(m) || i < -1 || i > 7) return NONE;
        Rows rows = new Rows(world.mirrors.get(m));
        return i == -1 ? rows.most : rows.best[i] == -1 ? -5 : rows.best[i];
    }

    int fair(int what) {
        if (what < 0 || what > 1) return NONE;
        int pair = -5;
        int most = -5;
        for (int m = 0; m < world.mirrors.size(); m++) {
            for (int p = 0; p < world.patches.size(); p++) {
                TreeMap<Integer, Integer> was = new TreeMap<>(world.plan);
                for (int q = 0; q < 8; q++) world.plan.put(10 * m + q, p);
                int least = lightOf(worth(1));
                world.plan = was;
                if (least > most) {
                    most = least;
                    pair = 10 * m + p;
                }
            }
        }
        return what == 0 ? pair : most;
    }

    int take(int coin, int what) {
        if (what < 0 || what > 2) return NONE;
        if (coin < 0 || coin > 300) return BAD;
        List<int[]> sets = new ArrayList<>();
        for (int set = 0; set < 1 << world.mirrors.size(); set++) {
            int[] told = {set, 0, 0};
            for (Mirror a : world.mirrors) {
                if ((set & 1 << a.number) == 0) continue;
                for (int q = 0; q < 8; q++) told[1] += lit(a, q) ? 1 : 0;
                told[2] += a.cost;
            }
            if (told[2] <= coin) sets.add(told);
        }
        sets.sort((a, b) -> a[1] != b[1] ? b[1] - a[1] : a[2] != b[2] ? a[2] - b[2] : a[0] - b[0]);
        return sets.get(0)[what];
    }

    int coarse(int n) {
        if (n < 1 || n > 9) return BAD;
        int bits = 0;
        for (Mirror a : world.mirrors) {
            boolean none = true;
            for (int p = 0; p < world.patches.size(); p++) none &= p % n != 0 || can(a.number, p, 1) == 0;
            if (none) bits |= 1 << a.number;
        }
        return bits;
    }

    long kept(int p, int k, int part) {
        if (noPatch(p) || k < 0 || k > 8 || part < 0 || part > 1) return NO;
        BigInteger above = BigInteger.ZERO;
        for (int cloudy = 0; cloudy < 256; cloudy++) {
            int sunny = 0;
            BigInteger odds = BigInteger.ONE;
            for (int q = 0; q < 8; q++) {
                boolean clouded = (cloudy >> q & 1) == 1;
                odds = odds.multiply(BigInteger.valueOf(clouded ? cloud() : 10 - cloud()));
                if (!clouded && lightAt(p, q) > 0) sunny++;
            }
            if (sunny >= k) above = above.add(odds);
        }
        BigInteger below = BigInteger.TEN.pow(8);
        BigInteger common = above.gcd(below);
        return (part == 0 ? above : below).divide(common).longValueExact();
    }

    private void goDay() {
        List<int[]> after = new ArrayList<>();
        for (int p = 0; p < world.patches.size(); p++) {
            int[] place = world.patches.get(p).clone();
            for (int q = 0; q < 8; q++) {
                if ((own(p, q) || lightAt(p, q) > 0) && place[3] > 0) place[3]--;
            }
            after.add(place);
        }
        world.patches = after;
        world.day++;
    }

    int gone(int p) {
        if (noPatch(p)) return NONE;
        World was = world;
        world = was.copy();
        int days = 0;
        while (days <= 30 && world.patches.get(p)[3] > 0) {
            goDay();
            days++;
        }
        world = was;
        return days > 30 ? -5 : days;
    }

    int day() {
        if (world.day == 89) return STATE;
        goDay();
        return world.day;
    }

    int passed(int m, int p, int q) {
        if (noMirror(m) || noPatch(p) || q < 0 || q > 7) return NONE;
        Mirror a = world.mirrors.get(m);
        for (Mirror by : world.mirrors) {
            boolean way = by.number != m && by.kind == 5 && !between(a.x, a.y, a.height, by.x, by.y, by.height);
            if (way && lit(a, q) && wayFree(by, p)) return by.number;
        }
        return -5;
    }

    int vote(int digits) {
        int size = world.patches.size();
        if (size == 0 || !world.ballots.isEmpty() && size != world.patchesAtFirstBallot) return STATE;
        if (digits < 0) return BAD;
        String row = String.format("%0" + size + "d", digits);
        char[] sorted = row.toCharArray();
        Arrays.sort(sorted);
        if (!new String(sorted).equals("012345".substring(0, size))) return BAD;
        if (world.ballots.size() == 5) return FULL;
        if (world.ballots.isEmpty()) world.patchesAtFirstBallot = size;
        world.ballots = with(world.ballots, row);
        return world.ballots.size();
    }

    int clear() {
        int rows = world.ballots.size();
        world.ballots = List.of();
        return rows;
    }

    private boolean beats(int a, int b) {
        double ahead = 0;
        for (String row : world.ballots) {
            if (row.indexOf('0' + a) < row.indexOf('0' + b)) ahead++;
        }
        return ahead > world.ballots.size() / 2.0;
    }

    private int beaten(int p) {
        int beaten = 0;
        for (int other = 0; other < world.patches.size(); other++) {
            if (other != p && beats(p, other)) beaten++;
        }
        return beaten;
    }

    int holds(int what) {
        int size = world.patches.size();
        boolean there = what == 0 || what == 1 || what >= 10 && what < 10 + size || what >= 20 && what < 20 + size;
        if (!there) return NONE;
        if (world.ballots.isEmpty() || size != world.patchesAtFirstBallot) return STATE;
        List<Integer> order = new ArrayList<>();
        for (int p = 0; p < size; p++) order.add(p);
        order.sort((a, b) -> beaten(a) != beaten(b) ? beaten(b) - beaten(a) : a - b);
        if (what >= 20) return beaten(what - 20);
        if (what >= 10) return order.get(what - 10);
        if (what == 0) return beaten(order.get(0)) == size - 1 ? order.get(0) : -5;
        for (int row = 0; row < 600; row++) {
            int a = row / 100;
            int b = row / 10 % 10;
            int c = row % 10;
            boolean in = a < size && b < size && c < size && a < b && a < c && b != c;
            if (in && beats(a, b) && beats(b, c) && beats(c, a)) return row;
        }
        return -5;
    }

    private static final int[] ABOVE = {-1, 0, 0, 1, 1, 2, 2};

    /** The body of an act from a KIND on upwards: the KIND it stands in, in tens, and the act's number. */
    private static int body(int kind, int act) {
        List<Integer> bodies = List.of(1, 2, 3, 11, 22, 33, 43, 51, 62);
        int from = kind;
        while (!bodies.contains(10 * from + act + 1)) from = ABOVE[from];
        return 10 * from + act + 1;
    }

    private int ran(Mirror a, int kind, int act, int x) {
        int body = body(kind, act);
        int number = List.of(1, 2, 3, 11, 21, 31, 41, 51, 61).get(List.of(1, 2, 3, 11, 22, 33, 43, 51, 62).indexOf(body));
        trace.add(number);
        int above = ABOVE[body / 10];
        return switch (number) {
            case 1 -> x + a.number;
            case 2 -> ran(a, a.kind, 0, x) - a.v;
            case 3 -> ran(a, a.kind, 1, x) * 2;
            case 11 -> ran(a, above, 0, x * 3);
            case 21 -> -ran(a, above, 1, x);
            case 31 -> ran(a, above, 2, x) ^ 7;
            case 41 -> {
                int told = ran(a, above, 2, x - 1);
                yield told + ran(a, a.kind, 0, 2);
            }
            case 51 -> ran(a, above, 0, x) ^ a.number;
            default -> ran(a, above, 1, x) + a.v;
        };
    }

    int act(int m, int act, int x) {
        trace = new ArrayList<>();
        return noMirror(m) || act < 0 || act > 2 ? 0 : ran(world.mirrors.get(m), world.mirrors.get(m).kind, act, x);
    }

    int trace(int i) {
        return i < 0 || i >= Math.min(20, trace.size()) ? NONE : trace.get(i);
    }

    int as(int m, int k) {
        if (noMirror(m) || k < 0 || k > 6) return NONE;
        for (int kind = world.mirrors.get(m).kind; kind >= 0; kind = ABOVE[kind]) {
            if (kind == k) return world.mirrors.get(m).v;
        }
        return -6;
    }

    int image() {
        image = world.copy();
        return world.mirrors.size();
    }

    int undo() {
        if (image == null) return STATE;
        world = image.copy();
        return world.mirrors.size();
    }

    int count(int what) {
        if (what < 0 || what > 7) return NONE;
        return new int[] {world.mirrors.size(), world.patches.size(), world.walls.size(), world.valleys.size(), world.day,
            world.ballots.size(), world.tape.length(), trace.size()}[what];
    }
}
