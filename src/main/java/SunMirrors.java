import java.util.Arrays;

/** Sun by mirrors, as the document says it; its capital words are the words of the names and comments here. */
public final class SunMirrors {
    public static final int NONE = -1, BAD = -2, STATE = -3, FULL = -4;
    public static final long NO = Long.MIN_VALUE;

    private static final int NOTHING = -5, OTHER_KIND = -6, FAULT = -10;
    private static final int MIRRORS = 6, PATCHES = 6, WALLS = 8, VALLEYS = 5, ROWS = 5;
    private static final int QUARTERS = 8, ALL_QUARTERS = 255, LAST_DAY = 89, DAYS_AHEAD = 30;
    private static final int MOST_PLACE = 40, MOST_HEIGHT = 40, MOST_COST = 99, MOST_WORTH = 20, MOST_SNOW = 20;
    private static final int MOST_COIN = 300, MOST_COARSE = 9;

    private static final int MIRROR = 0, TURNED = 1, FIXED = 2, ONE = 3, GREAT = 4, PASSING = 5, TOLD = 6;
    private static final int KINDS = 7, MIRROR_PARTS = 7;

    private static final int X = 0, Y = 1, WORTH = 2, SNOW = 3, PATCH_PARTS = 4;

    private static final int TAPE = 120, CLAUSES = 10, OPEN = 5;
    private static final int LIT = 0, EYES = 1, OWN = 2;
    private static final int NO_MIRROR = 99, NO_PATCH = 99, NO_HEIGHT = 0;
    private static final int TENTHS = 10, FREE_TURN = 9;

    private static final int TRACED = 20;
    private static final int ORDERED = 10, BEATEN = 20;

    private final Scene now = new Scene();
    private final Scene taken = new Scene();
    private boolean isTaken = false;
    private final Trace latest = new Trace();

    // Rows that single calls fill and read: kept here, so that no call makes any.
    private final int[] cans = new int[PATCHES];
    private final int[][] sums = new int[QUARTERS + 1][PATCHES + 1];
    private final int[][] planned = new int[MIRRORS][PATCHES];
    private final int[][] always = new int[MIRRORS][PATCHES];
    private final int[] lits = new int[MIRRORS];
    private final int[] ballot = new int[PATCHES];

    public SunMirrors() {
    }

    // ---- mirrors, patches, walls, valleys

    public int mirror(int kind, int at, int is) {
        if (kind < 0 || kind >= KINDS) return NONE;
        if (!isPoint(at) || !isMake(is)) return BAD;
        if (now.mirrorCount >= MIRRORS) return FULL;
        int number = now.mirrorCount;
        now.mirrors[number] = newMirror(kind, number, at, is);
        now.mirrorCount++;
        return number;
    }

    public int patch(int at, int worth, int snow) {
        if (!isPoint(at) || !isWithin(worth, 0, MOST_WORTH) || !isWithin(snow, 0, MOST_SNOW)) return BAD;
        if (now.patchCount >= PATCHES) return FULL;
        int number = now.patchCount;
        int[] place = now.patches[number];
        place[X] = at / 100;
        place[Y] = at % 100;
        place[WORTH] = worth;
        place[SNOW] = snow;
        now.patchCount++;
        return number;
    }

    public int wall(int from, int to, int height) {
        if (!isPoint(from) || !isPoint(to) || !isWithin(height, 1, MOST_HEIGHT)) return BAD;
        if (now.wallCount >= WALLS) return FULL;
        int number = now.wallCount;
        now.walls[number] = new Wall(from, to, height);
        now.wallCount++;
        return number;
    }

    public int of(int mirror, int what) {
        Mirror asked = now.mirrorAt(mirror);
        if (asked == null || what < 0 || what >= MIRROR_PARTS) return NONE;
        return asked.part(what);
    }

    public int is(int patch, int what) {
        if (!now.hasPatch(patch) || what < 0 || what >= PATCH_PARTS) return NONE;
        return now.patches[patch][what];
    }

    public int feed(long w, int n) {
        if (n < 1 || n > 8) return BAD;
        if (now.tapeSize + n > TAPE) return FULL;
        for (int left = n - 1; left >= 0; left--) {
            now.tape[now.tapeSize] = (byte) (w >>> (8 * left));
            now.tapeSize++;
        }
        return now.tapeSize;
    }

    public int valley() {
        if (now.valleyCount >= VALLEYS) return FULL;
        Valley read = new Valley();
        int fault = read.faultOf(now.tape, now.tapeSize);
        now.tapeSize = 0;
        if (fault >= 0) return FAULT - fault;
        now.valley = read;
        now.valleyCount++;
        return now.valleyCount - 1;
    }

    public int free(int mirror, int patch) {
        Mirror asked = now.mirrorAt(mirror);
        if (asked == null || !now.hasPatch(patch)) return NONE;
        return now.isWayFree(asked, patch) ? 1 : 0;
    }

    public int can(int mirror, int patch, int what) {
        Mirror asked = now.mirrorAt(mirror);
        if (asked == null || !now.hasPatch(patch) || what < 0 || what > 1) return NONE;
        return what == 0 ? now.litQuarters(asked) : now.canQuarters(asked, patch, now.today);
    }

    // ---- plans

    public int plan(int mirror, int quarter, int patch) {
        if (now.mirrorAt(mirror) == null || !isQuarter(quarter)) return NONE;
        if (patch != -1 && !now.hasPatch(patch)) return NONE;
        int[] row = now.plan[mirror];
        int was = row[quarter];
        row[quarter] = patch;
        return orNothing(was);
    }

    public int judged() {
        for (int quarter = 0; quarter < QUARTERS; quarter++) {
            for (int mirror = 0; mirror < now.mirrorCount; mirror++) {
                if (!canBe(now.mirrors[mirror], quarter)) return 10 * quarter + mirror;
            }
        }
        return NOTHING;
    }

    public int has(int patch, int what) {
        if (!now.hasPatch(patch) || what < 0 || what > 2) return NONE;
        if (what == 0) return now.lightOf(patch);
        int own = now.ownQuarters(patch, now.today);
        if (what == 2) return own;
        int sunny = own | now.lightQuarters(patch, now.today);
        return ALL_QUARTERS & ~sunny;
    }

    public int worth(int what) {
        if (what < 0 || what > 1) return NONE;
        return what == 0 ? planWorth() : orNothing(worstOff());
    }

    public int best(int mirror, int i) {
        Mirror asked = now.mirrorAt(mirror);
        if (asked == null || i < -1 || i >= QUARTERS) return NONE;
        sumFromBehind(asked);
        return i == -1 ? sums[0][0] : orNothing(bestAt(asked, i));
    }

    public int fair(int what) {
        if (what < 0 || what > 1) return NONE;
        if (now.mirrorCount == 0 || now.patchCount == 0) return NOTHING;
        countLight();
        int pair = 0;
        int most = -1;
        for (int mirror = 0; mirror < now.mirrorCount; mirror++) {
            for (int patch = 0; patch < now.patchCount; patch++) {
                int least = leastIfAlways(mirror, patch);
                if (least > most) {
                    most = least;
                    pair = 10 * mirror + patch;
                }
            }
        }
        return what == 0 ? pair : most;
    }

    public int take(int coin, int what) {
        if (what < 0 || what > 2) return NONE;
        if (!isWithin(coin, 0, MOST_COIN)) return BAD;
        for (int mirror = 0; mirror < now.mirrorCount; mirror++) {
            lits[mirror] = Integer.bitCount(now.litQuarters(now.mirrors[mirror]));
        }
        int set = bestSet(coin);
        if (what == 0) return set;
        return what == 1 ? litOf(set) : costOf(set);
    }

    public int coarse(int n) {
        if (n < 1 || n > MOST_COARSE) return BAD;
        int set = 0;
        for (int mirror = 0; mirror < now.mirrorCount; mirror++) {
            boolean reaches = false;
            for (int patch = 0; patch < now.patchCount; patch += n) {
                reaches = reaches || now.canQuarters(now.mirrors[mirror], patch, now.today) != 0;
            }
            if (!reaches) set |= 1 << mirror;
        }
        return set;
    }

    public long kept(int patch, int k, int part) {
        if (!now.hasPatch(patch) || k < 0 || k > QUARTERS || part < 0 || part > 1) return NO;
        int quarters = Integer.bitCount(now.lightQuarters(patch, now.today));
        long above = oddsOfClear(quarters, k);
        long below = power(TENTHS, quarters);
        long common = commonDivisor(above, below);
        return (part == 0 ? above : below) / Math.max(common, 1L);
    }

    // ---- days, passing on

    public int gone(int patch) {
        if (!now.hasPatch(patch)) return NONE;
        int snow = now.patches[patch][SNOW];
        for (int days = 0; days <= DAYS_AHEAD; days++) {
            if (snow == 0) return days;
            snow = now.snowBehind(patch, snow, now.today + days);
        }
        return NOTHING;
    }

    public int day() {
        if (now.today >= LAST_DAY) return STATE;
        for (int patch = 0; patch < now.patchCount; patch++) {
            int[] place = now.patches[patch];
            place[SNOW] = now.snowBehind(patch, place[SNOW], now.today);
        }
        now.today++;
        return now.today;
    }

    public int passed(int mirror, int patch, int quarter) {
        Mirror asked = now.mirrorAt(mirror);
        if (asked == null || !now.hasPatch(patch) || !isQuarter(quarter)) return NONE;
        if (!isIn(now.litQuarters(asked), quarter)) return NOTHING;
        for (int by = 0; by < now.mirrorCount; by++) {
            if (by != mirror && passesOn(asked, now.mirrors[by], patch)) return by;
        }
        return NOTHING;
    }

    // ---- votes

    public int vote(int digits) {
        if (now.patchCount == 0 || now.hasNewPatch()) return STATE;
        if (!readBallot(digits)) return BAD;
        if (now.rowCount >= ROWS) return FULL;
        for (int dearer = 0; dearer < now.patchCount; dearer++) {
            for (int behind = dearer + 1; behind < now.patchCount; behind++) {
                now.ahead[ballot[dearer]][ballot[behind]]++;
            }
        }
        now.votedPatches = now.patchCount;
        now.rowCount++;
        return now.rowCount;
    }

    public int clear() {
        int rows = now.rowCount;
        now.rowCount = 0;
        for (int patch = 0; patch < PATCHES; patch++) {
            Arrays.fill(now.ahead[patch], 0);
        }
        return rows;
    }

    public int holds(int what) {
        boolean ordered = what >= ORDERED && what < ORDERED + now.patchCount;
        boolean beaten = what >= BEATEN && what < BEATEN + now.patchCount;
        if (what != 0 && what != 1 && !ordered && !beaten) return NONE;
        if (now.rowCount == 0 || now.hasNewPatch()) return STATE;
        if (ordered) return patchInOrder(what - ORDERED);
        if (beaten) return beatenBy(what - BEATEN);
        return what == 0 ? winner() : ring();
    }

    // ---- acts, the image

    public int act(int mirror, int act, int x) {
        latest.begin();
        Mirror asked = now.mirrorAt(mirror);
        if (asked == null) return 0;
        switch (act) {
            case 0: return asked.casts(x, latest);
            case 1: return asked.turns(x, latest);
            case 2: return asked.tells(x, latest);
            default: return 0;
        }
    }

    public int trace(int i) {
        if (i < 0 || i >= latest.ran || i >= TRACED) return NONE;
        return latest.bodies[i];
    }

    public int as(int mirror, int k) {
        Mirror asked = now.mirrorAt(mirror);
        if (asked == null || k < 0 || k >= KINDS) return NONE;
        return isUnder(asked, k) ? asked.v : OTHER_KIND;
    }

    public int image() {
        taken.copyFrom(now);
        isTaken = true;
        return now.mirrorCount;
    }

    public int undo() {
        if (!isTaken) return STATE;
        now.copyFrom(taken);
        return now.mirrorCount;
    }

    public int count(int what) {
        switch (what) {
            case 0: return now.mirrorCount;
            case 1: return now.patchCount;
            case 2: return now.wallCount;
            case 3: return now.valleyCount;
            case 4: return now.today;
            case 5: return now.rowCount;
            case 6: return now.tapeSize;
            case 7: return latest.ran;
            default: return NONE;
        }
    }

    // ---- numbers

    private static boolean isWithin(int number, int least, int most) {
        return number >= least && number <= most;
    }

    private static boolean isPoint(int at) {
        return at >= 0 && at / 100 <= MOST_PLACE && at % 100 <= MOST_PLACE;
    }

    /** Whether a number tells COST, HEIGHT, SIZE and v of a MIRROR. */
    private static boolean isMake(int is) {
        return is >= 0 && is / 10000 <= MOST_COST && isWithin(is / 100 % 100, 1, MOST_HEIGHT) && is / 10 % 10 >= 1;
    }

    private static boolean isQuarter(int quarter) {
        return quarter >= 0 && quarter < QUARTERS;
    }

    private static boolean isIn(int bits, int quarter) {
        return ((bits >> quarter) & 1) == 1;
    }

    private static int orNothing(int patch) {
        return patch < 0 ? NOTHING : patch;
    }

    private static long power(long base, int times) {
        long product = 1;
        for (int i = 0; i < times; i++) {
            product *= base;
        }
        return product;
    }

    private static long commonDivisor(long a, long b) {
        long divisor = b;
        long rest = a;
        // Both are 10 to the 8th at most: Euclid's way is far shorter than a hundred steps.
        for (int step = 0; step < 100 && rest != 0; step++) {
            long next = divisor % rest;
            divisor = rest;
            rest = next;
        }
        return divisor;
    }

    // ---- kinds

    private static Mirror newMirror(int kind, int number, int at, int is) {
        switch (kind) {
            case TURNED: return new Turned(kind, number, at, is);
            case FIXED: return new Fixed(kind, number, at, is);
            case ONE: return new One(kind, number, at, is);
            case GREAT: return new Great(kind, number, at, is);
            case PASSING: return new Passing(kind, number, at, is);
            case TOLD: return new Told(kind, number, at, is);
            default: return new Mirror(kind, number, at, is);
        }
    }

    private static boolean isUnder(Mirror mirror, int kind) {
        switch (kind) {
            case MIRROR: return true;
            case TURNED: return mirror instanceof Turned;
            case FIXED: return mirror instanceof Fixed;
            case ONE: return mirror instanceof One;
            case GREAT: return mirror instanceof Great;
            case PASSING: return mirror instanceof Passing;
            case TOLD: return mirror instanceof Told;
            default: return false;
        }
    }

    // ---- plans

    private boolean canBe(Mirror mirror, int quarter) {
        int[] row = now.plan[mirror.number];
        int patch = row[quarter];
        if (patch < 0) return true;
        if (quarter > 0 && turnsTooFar(row[quarter - 1], patch)) return false;
        return isIn(now.canQuarters(mirror, patch, now.today), quarter);
    }

    private boolean turnsTooFar(int from, int to) {
        return from >= 0 && to >= 0 && Math.abs(from - to) > now.valley.turn;
    }

    private int planWorth() {
        int sum = 0;
        for (int patch = 0; patch < now.patchCount; patch++) {
            sum += now.patches[patch][WORTH] * now.lightOf(patch);
        }
        return sum;
    }

    private int worstOff() {
        int worst = -1;
        int least = 0;
        for (int patch = 0; patch < now.patchCount; patch++) {
            int light = now.lightOf(patch);
            if (worst < 0 || light < least) {
                least = light;
                worst = patch;
            }
        }
        return worst;
    }

    /** Fills sums, by a QUARTER and the PATCH ahead of it (one more than its number): what can come from there on. */
    private void sumFromBehind(Mirror mirror) {
        for (int patch = 0; patch < now.patchCount; patch++) {
            cans[patch] = now.canQuarters(mirror, patch, now.today);
        }
        Arrays.fill(sums[QUARTERS], 0);
        for (int quarter = QUARTERS - 1; quarter >= 0; quarter--) {
            for (int last = -1; last < now.patchCount; last++) {
                int most = 0;
                for (int patch = -1; patch < now.patchCount; patch++) {
                    most = Math.max(most, sumBy(mirror, quarter, last, patch));
                }
                sums[quarter][last + 1] = most;
            }
        }
    }

    /** The greatest sum from a QUARTER on, if a PATCH (or none) follows the last one; -1 if that can't be. */
    private int sumBy(Mirror mirror, int quarter, int last, int patch) {
        if (patch < 0) return sums[quarter + 1][0];
        if (!isIn(cans[patch], quarter) || turnsTooFar(last, patch)) return -1;
        return now.patches[patch][WORTH] * mirror.light() + sums[quarter + 1][patch + 1];
    }

    private int bestAt(Mirror mirror, int quarter) {
        int last = -1;
        for (int at = 0; at <= quarter; at++) {
            last = firstBest(mirror, at, last);
        }
        return last;
    }

    private int firstBest(Mirror mirror, int quarter, int last) {
        for (int patch = -1; patch < now.patchCount; patch++) {
            if (sumBy(mirror, quarter, last, patch) == sums[quarter][last + 1]) return patch;
        }
        return -1;
    }

    /** Fills planned and always: what MIRRORS give PATCHES by the PLAN, and if their PLAN were that PATCH alone. */
    private void countLight() {
        for (int number = 0; number < now.mirrorCount; number++) {
            Mirror mirror = now.mirrors[number];
            for (int patch = 0; patch < now.patchCount; patch++) {
                int can = now.canQuarters(mirror, patch, now.today);
                always[number][patch] = Integer.bitCount(can) * mirror.light();
                planned[number][patch] = Integer.bitCount(can & now.planQuarters(number, patch)) * mirror.light();
            }
        }
    }

    private int leastIfAlways(int mirror, int patch) {
        int least = -1;
        for (int other = 0; other < now.patchCount; other++) {
            int light = other == patch ? always[mirror][patch] : 0;
            for (int giver = 0; giver < now.mirrorCount; giver++) {
                if (giver != mirror) light += planned[giver][other];
            }
            if (least < 0 || light < least) least = light;
        }
        return least;
    }

    private int bestSet(int coin) {
        int best = 0;
        for (int set = 1; set < 1 << now.mirrorCount; set++) {
            int more = litOf(set) - litOf(best);
            int cost = costOf(set);
            if (cost <= coin && (more > 0 || more == 0 && cost < costOf(best))) best = set;
        }
        return best;
    }

    private int litOf(int set) {
        int sum = 0;
        for (int mirror = 0; mirror < now.mirrorCount; mirror++) {
            if (isIn(set, mirror)) sum += lits[mirror];
        }
        return sum;
    }

    private int costOf(int set) {
        int sum = 0;
        for (int mirror = 0; mirror < now.mirrorCount; mirror++) {
            if (isIn(set, mirror)) sum += now.mirrors[mirror].cost;
        }
        return sum;
    }

    /** The odds, of 10 to the power of the QUARTERS, that so many of them or more are not cloudy. */
    private long oddsOfClear(int quarters, int least) {
        long sum = 0;
        long ways = 1;
        for (int clear = 0; clear <= quarters; clear++) {
            if (clear > 0) ways = ways * (quarters - clear + 1) / clear;
            long odds = power(TENTHS - now.valley.cloud, clear) * power(now.valley.cloud, quarters - clear);
            if (clear >= least) sum += ways * odds;
        }
        return sum;
    }

    // ---- passing on

    private boolean passesOn(Mirror from, Mirror by, int patch) {
        return by instanceof Passing && !now.isWallBetween(from, by.x, by.y, by.height) && now.isWayFree(by, patch);
    }

    // ---- votes

    /** Fills ballot; whether the digits are those of all PATCHES. */
    private boolean readBallot(int digits) {
        if (digits < 0) return false;
        int rest = digits;
        int seen = 0;
        for (int i = now.patchCount - 1; i >= 0; i--) {
            int patch = rest % 10;
            rest /= 10;
            if (patch >= now.patchCount) return false;
            seen |= 1 << patch;
            ballot[i] = patch;
        }
        return rest == 0 && seen == (1 << now.patchCount) - 1;
    }

    private boolean beats(int patch, int other) {
        return 2 * now.ahead[patch][other] > now.rowCount;
    }

    private int beatenBy(int patch) {
        int beaten = 0;
        for (int other = 0; other < now.patchCount; other++) {
            if (beats(patch, other)) beaten++;
        }
        return beaten;
    }

    private int winner() {
        for (int patch = 0; patch < now.patchCount; patch++) {
            if (beatenBy(patch) == now.patchCount - 1) return patch;
        }
        return NOTHING;
    }

    private int patchInOrder(int i) {
        for (int patch = 0; patch < now.patchCount; patch++) {
            if (aheadInOrder(patch) == i) return patch;
        }
        return NOTHING;
    }

    private int aheadInOrder(int patch) {
        int own = beatenBy(patch);
        int ahead = 0;
        for (int other = 0; other < now.patchCount; other++) {
            int beaten = beatenBy(other);
            if (beaten > own || beaten == own && other < patch) ahead++;
        }
        return ahead;
    }

    private int ring() {
        // No PATCH beats itself, so a, b and c need no test that they differ; and the first row has a least,
        // since its turns are rows of RINGS, too.
        for (int a = 0; a < now.patchCount; a++) {
            for (int b = 0; b < now.patchCount; b++) {
                for (int c = 0; c < now.patchCount; c++) {
                    if (beats(a, b) && beats(b, c) && beats(c, a)) return 100 * a + 10 * b + c;
                }
            }
        }
        return NOTHING;
    }

    /** All that THE IMAGE takes, and what it tells by itself. */
    private static final class Scene {
        final Mirror[] mirrors = new Mirror[MIRRORS];
        int mirrorCount = 0;
        final int[][] patches = new int[PATCHES][PATCH_PARTS];
        int patchCount = 0;
        final Wall[] walls = new Wall[WALLS];
        int wallCount = 0;
        final byte[] tape = new byte[TAPE];
        int tapeSize = 0;
        Valley valley = new Valley();
        int valleyCount = 0;
        final int[][] plan = new int[MIRRORS][QUARTERS];
        int today = 0;
        // By two PATCHES: in how many rows the first is ahead of the second; nothing asks more of the rows.
        final int[][] ahead = new int[PATCHES][PATCHES];
        int rowCount = 0;
        int votedPatches = 0;

        Scene() {
            for (int mirror = 0; mirror < MIRRORS; mirror++) {
                Arrays.fill(plan[mirror], -1);
            }
        }

        // MIRRORS, WALLS and VALLEYS never change once they are made, so both scenes may share them.
        void copyFrom(Scene other) {
            System.arraycopy(other.mirrors, 0, mirrors, 0, MIRRORS);
            mirrorCount = other.mirrorCount;
            copyRows(other.patches, patches);
            patchCount = other.patchCount;
            System.arraycopy(other.walls, 0, walls, 0, WALLS);
            wallCount = other.wallCount;
            System.arraycopy(other.tape, 0, tape, 0, TAPE);
            tapeSize = other.tapeSize;
            valley = other.valley;
            valleyCount = other.valleyCount;
            copyRows(other.plan, plan);
            today = other.today;
            copyRows(other.ahead, ahead);
            rowCount = other.rowCount;
            votedPatches = other.votedPatches;
        }

        private static void copyRows(int[][] from, int[][] to) {
            for (int i = 0; i < from.length && i < to.length; i++) {
                System.arraycopy(from[i], 0, to[i], 0, Math.min(from[i].length, to[i].length));
            }
        }

        Mirror mirrorAt(int mirror) {
            return mirror >= 0 && mirror < mirrorCount ? mirrors[mirror] : null;
        }

        boolean hasPatch(int patch) {
            return patch >= 0 && patch < patchCount;
        }

        boolean hasNewPatch() {
            return rowCount > 0 && patchCount != votedPatches;
        }

        boolean isWallBetween(Mirror from, int toX, int toY, int toHeight) {
            for (int wall = 0; wall < wallCount; wall++) {
                if (walls[wall].isBetween(from, toX, toY, toHeight)) return true;
            }
            return false;
        }

        boolean isWayFree(Mirror mirror, int patch) {
            return !isWallBetween(mirror, patches[patch][X], patches[patch][Y], 0);
        }

        int litQuarters(Mirror mirror) {
            return valley.quartersOf(LIT, mirror.number, NO_PATCH, today, mirror.height);
        }

        int ownQuarters(int patch, int day) {
            return valley.quartersOf(OWN, NO_MIRROR, patch, day, NO_HEIGHT);
        }

        int canQuarters(Mirror mirror, int patch, int day) {
            if (!mirror.mayThrowOn(patch, patches[patch][X], patches[patch][Y])) return 0;
            if (!isWayFree(mirror, patch)) return 0;
            int lit = valley.quartersOf(LIT, mirror.number, NO_PATCH, day, mirror.height);
            int struck = valley.quartersOf(EYES, mirror.number, patch, day, mirror.height);
            return lit & ~struck;
        }

        int planQuarters(int mirror, int patch) {
            int bits = 0;
            for (int quarter = 0; quarter < QUARTERS; quarter++) {
                if (plan[mirror][quarter] == patch) bits |= 1 << quarter;
            }
            return bits;
        }

        private int thrownQuarters(int mirror, int patch, int day) {
            int bits = planQuarters(mirror, patch);
            return bits == 0 ? 0 : bits & canQuarters(mirrors[mirror], patch, day);
        }

        int lightQuarters(int patch, int day) {
            int bits = 0;
            for (int mirror = 0; mirror < mirrorCount; mirror++) {
                bits |= thrownQuarters(mirror, patch, day);
            }
            return bits;
        }

        int lightOf(int patch) {
            int sum = 0;
            for (int mirror = 0; mirror < mirrorCount; mirror++) {
                sum += Integer.bitCount(thrownQuarters(mirror, patch, today)) * mirrors[mirror].light();
            }
            return sum;
        }

        int snowBehind(int patch, int snow, int day) {
            int sunny = ownQuarters(patch, day) | lightQuarters(patch, day);
            return Math.max(0, snow - Integer.bitCount(sunny));
        }
    }

    /** A WALL; points are 100 times x and y. */
    private static final class Wall {
        final int x;
        final int y;
        final int alongX;
        final int alongY;
        final int height;

        Wall(int from, int to, int height) {
            x = from / 100;
            y = from % 100;
            alongX = to / 100 - x;
            alongY = to % 100 - y;
            this.height = height;
        }

        /**
         * With the way at M + t D and the wall at A + u E, both from 0 to 1, t is (A - M) x E and u is (A - M) x D,
         * of D x E; all is multiplied by D x E instead of divided, so that it stays exact.
         */
        boolean isBetween(Mirror from, int toX, int toY, int toHeight) {
            int wayX = toX - from.x;
            int wayY = toY - from.y;
            int whole = wayX * alongY - wayY * alongX;
            if (whole == 0) return false;
            int sign = whole < 0 ? -1 : 1;
            int offX = sign * (x - from.x);
            int offY = sign * (y - from.y);
            int onWay = offX * alongY - offY * alongX;
            int onWall = offX * wayY - offY * wayX;
            whole *= sign;
            if (onWay < 0 || onWay > whole || onWall < 0 || onWall > whole) return false;
            return from.height * whole + (toHeight - from.height) * onWay < height * whole;
        }
    }

    /** The bodies that ran in the latest act. */
    private static final class Trace {
        final int[] bodies = new int[TRACED];
        int ran = 0;

        void begin() {
            ran = 0;
        }

        void add(int body) {
            if (ran < TRACED) bodies[ran] = body;
            ran++;
        }
    }

    /** A MIRROR; the KINDS under it are classes under it, so that their bodies run as the document tells. */
    private static class Mirror {
        final int kind;
        final int number;
        final int x;
        final int y;
        final int height;
        final int size;
        final int cost;
        final int v;

        Mirror(int kind, int number, int at, int is) {
            this.kind = kind;
            this.number = number;
            x = at / 100;
            y = at % 100;
            cost = is / 10000;
            height = is / 100 % 100;
            size = is / 10 % 10;
            v = is % 10;
        }

        int part(int what) {
            switch (what) {
                case 0: return kind;
                case 1: return x;
                case 2: return y;
                case 3: return height;
                case 4: return size;
                case 5: return cost;
                case 6: return v;
                default: return NONE;
            }
        }

        boolean mayThrowOn(int patch, int toX, int toY) {
            return true;
        }

        int light() {
            return size;
        }

        int casts(int x, Trace trace) {
            trace.add(1);
            return x + number;
        }

        int turns(int x, Trace trace) {
            trace.add(2);
            return casts(x, trace) - v;
        }

        int tells(int x, Trace trace) {
            trace.add(3);
            return turns(x, trace) * 2;
        }
    }

    private static class Turned extends Mirror {
        Turned(int kind, int number, int at, int is) {
            super(kind, number, at, is);
        }

        boolean mayThrowOn(int patch, int toX, int toY) {
            return x != toX || y != toY;
        }

        int casts(int x, Trace trace) {
            trace.add(11);
            return super.casts(x * 3, trace);
        }
    }

    private static class Fixed extends Mirror {
        Fixed(int kind, int number, int at, int is) {
            super(kind, number, at, is);
        }

        boolean mayThrowOn(int patch, int toX, int toY) {
            return patch == v;
        }

        int turns(int x, Trace trace) {
            trace.add(21);
            return -super.turns(x, trace);
        }
    }

    private static final class One extends Turned {
        One(int kind, int number, int at, int is) {
            super(kind, number, at, is);
        }

        boolean mayThrowOn(int patch, int toX, int toY) {
            return super.mayThrowOn(patch, toX, toY) && Math.abs(y - toY) <= v;
        }

        int tells(int x, Trace trace) {
            trace.add(31);
            return super.tells(x, trace) ^ 7;
        }
    }

    private static final class Great extends Turned {
        Great(int kind, int number, int at, int is) {
            super(kind, number, at, is);
        }

        boolean mayThrowOn(int patch, int toX, int toY) {
            return super.mayThrowOn(patch, toX, toY) && Math.abs(x - toX) >= v;
        }

        int light() {
            return 2 * size;
        }

        int tells(int x, Trace trace) {
            trace.add(41);
            return super.tells(x - 1, trace) + casts(2, trace);
        }
    }

    private static final class Passing extends Fixed {
        Passing(int kind, int number, int at, int is) {
            super(kind, number, at, is);
        }

        int casts(int x, Trace trace) {
            trace.add(51);
            return super.casts(x, trace) ^ number;
        }
    }

    private static final class Told extends Fixed {
        Told(int kind, int number, int at, int is) {
            super(kind, number, at, is);
        }

        boolean mayThrowOn(int patch, int toX, int toY) {
            return patch != v;
        }

        int turns(int x, Trace trace) {
            trace.add(61);
            return super.turns(x, trace) + v;
        }
    }

    /** A VALLEY: its CLAUSES, read from THE TAPE into steps over a stack, an operator behind its parts. */
    private static final class Valley {
        private static final int NOT = -1, AND = -2, OR = -3;
        private static final int QUARTER = 2;
        private static final String TESTED = "mpqdh";
        private static final String COMPARED = "<=>";

        private final int[] steps = new int[TAPE];
        private int stepCount = 0;
        private final int[] words = new int[CLAUSES];
        private final int[] ends = new int[CLAUSES];
        private int clauseCount = 0;
        private final int[] values = new int[TESTED.length()];
        // Each open ( leaves one part of a | and one of a & to wait; so does the E outside of all.
        private final int[] stack = new int[2 * (OPEN + 1) + 1];
        int cloud = 0;
        int turn = FREE_TURN;

        private byte[] text = null;
        private int size = 0;
        private int at = 0;
        private int sign = -1;

        /** The QUARTERS, as bits, at which E of some CLAUSE with this word holds. */
        int quartersOf(int word, int mirror, int patch, int day, int height) {
            values[0] = mirror;
            values[1] = patch;
            values[3] = day;
            values[4] = height;
            int bits = 0;
            int from = 0;
            for (int i = 0; i < clauseCount; i++) {
                if (words[i] == word) bits |= run(from, ends[i]);
                from = ends[i];
            }
            return bits;
        }

        private int run(int from, int to) {
            int count = 0;
            for (int i = from; i < to; i++) {
                int step = steps[i];
                int first = count - partsOf(step);
                // Reading leaves each step its parts and a place; the index is looked at all the same.
                if (first < 0 || first >= stack.length) return 0;
                if (step >= 0) {
                    stack[first] = quartersOfTest(step);
                } else if (step == NOT) {
                    stack[first] ^= ALL_QUARTERS;
                } else {
                    int last = stack[count - 1];
                    stack[first] = step == AND ? stack[first] & last : stack[first] | last;
                }
                count = first + 1;
            }
            return stack[0];
        }

        /** How many of the latest answers a step takes. */
        private static int partsOf(int step) {
            return step >= 0 ? 0 : step == NOT ? 1 : 2;
        }

        private int quartersOfTest(int test) {
            int tested = test / 300;
            int compared = test / 100 % 3;
            int number = test % 100;
            int bits = 0;
            for (int quarter = 0; quarter < QUARTERS; quarter++) {
                int value = tested == QUARTER ? quarter : values[tested];
                // Numbered as the signs stand in COMPARED.
                int order = value < number ? 0 : value == number ? 1 : 2;
                if (order == compared) bits |= 1 << quarter;
            }
            return bits;
        }

        /** Reads a text: its FAULT, or -1. Each reading part stops at the first byte that it cannot go on with. */
        int faultOf(byte[] tape, int tapeSize) {
            text = tape;
            size = Math.min(tapeSize, tape.length);
            at = -1;
            move();
            boolean isRead = readClause();
            for (int i = 1; i < CLAUSES && isRead && reads(';'); i++) {
                isRead = readClause();
            }
            return isRead && at == size ? -1 : at;
        }

        private void move() {
            at++;
            sign = at < size ? text[at] & 255 : -1;
        }

        private boolean reads(char wanted) {
            if (sign != wanted) return false;
            move();
            return true;
        }

        private boolean readWord(String word) {
            for (int i = 0; i < word.length(); i++) {
                if (!reads(word.charAt(i))) return false;
            }
            return true;
        }

        private boolean readClause() {
            switch (sign) {
                case 'l': return readWord("lit ") && readRule(LIT);
                case 'e': return readWord("eyes ") && readRule(EYES);
                case 'o': return readWord("own ") && readRule(OWN);
                case 'c': return readWord("cloud ") && readCloud();
                case 't': return readWord("turn ") && readTurn();
                default: return false;
            }
        }

        private boolean readCloud() {
            int number = readNumber();
            cloud = Math.min(number, TENTHS);
            return number >= 0;
        }

        private boolean readTurn() {
            turn = readNumber();
            return turn >= 0;
        }

        private boolean readRule(int word) {
            if (clauseCount >= CLAUSES || !readAny(0)) return false;
            words[clauseCount] = word;
            ends[clauseCount] = stepCount;
            clauseCount++;
            return true;
        }

        private boolean readAny(int open) {
            if (!readAll(open)) return false;
            for (int i = 0; i < TAPE && reads('|'); i++) {
                if (!readAll(open)) return false;
                addStep(OR);
            }
            return true;
        }

        private boolean readAll(int open) {
            if (!readFactor(open)) return false;
            for (int i = 0; i < TAPE && reads('&'); i++) {
                if (!readFactor(open)) return false;
                addStep(AND);
            }
            return true;
        }

        private boolean readFactor(int open) {
            if (sign != '!' && sign != '(') return readTest();
            if (open >= OPEN) return false;
            if (reads('(')) return readAny(open + 1) && reads(')');
            move();
            if (!readFactor(open + 1)) return false;
            addStep(NOT);
            return true;
        }

        private boolean readTest() {
            int tested = readOneOf(TESTED);
            if (tested < 0) return false;
            int compared = readOneOf(COMPARED);
            if (compared < 0) return false;
            int number = readNumber();
            if (number < 0) return false;
            addStep(300 * tested + 100 * compared + number);
            return true;
        }

        private int readOneOf(String signs) {
            int place = sign < 0 ? -1 : signs.indexOf((char) sign);
            if (place >= 0) move();
            return place;
        }

        /** A number; -1 if there is none. A digit too many is left to fail as what comes behind the number. */
        private int readNumber() {
            int number = -1;
            for (int digits = 0; digits < 2 && number != 0 && sign >= '0' && sign <= '9'; digits++) {
                number = 10 * Math.max(number, 0) + sign - '0';
                move();
            }
            return number;
        }

        private void addStep(int step) {
            if (stepCount >= TAPE) return;
            steps[stepCount] = step;
            stepCount++;
        }
    }
}
