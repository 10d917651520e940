import java.util.Arrays;

/**
 * The bursar's book of a house in which whoever is less REGARDED is PAID the difference.
 * The words in capitals are those of the document; what each call answers stands there.
 */
public final class FiddleShares {
    public static final int BAD = -1, FULL = -2, FINDING = -3, STATE = -4, SPENT = -6, NONE = -9;

    private static final int NOTHING = 1, BEYOND = 2, UNLIKE = 3, NOUGHT = 4, SIZE = 5;

    private static final int MISSING = -1;
    private static final int ROWS = 6, ROW_PLACES = 40;
    private static final int TEXTS = 4, TEXT_PLACES = 60;
    private static final int BLANK = 32, ITEM = 5;

    private static final int FEWEST_KIN = 2, MOST_KIN = 6;
    private static final int SISTER = 1, MILLER = 2, PATCHED = 3, JULIA = 4, UNLISTED = 5, KINDS = 6;
    private static final int MOST_LOOK = 9, MOST_SOOT = 3, MOST_PURSE = 99, MOST_REGARD = 30;

    private static final int PASSING = 0, SOOTING = 1, WASHING = 2, GIVING = 3, IDLE = 4;
    private static final int MOST_DEEDS = 40, LAST_QUARTER = 99, KEPT = 3;

    private static final int FAR_QUARTERS = 60, GAIN_QUARTERS = 40, NEAR_QUARTERS = 20;
    private static final int MOST_TURNS = 6, DUEL_QUARTERS = 4, DUEL_WAYS = 16, DUEL_EVEN = 100;
    private static final int MOST_PAID = 40, TWELVE = 12;
    private static final int MOST_LOTS = 20;
    private static final int LOT_FACTOR = 48271, LOT_MODULUS = 2147483647;
    private static final int LAST_COUNT = 10, LAST_OF_ONE = 6, LAST_FINDING = 5;

    private final Shelf rows = new Shelf(ROWS, ROW_PLACES, 0);
    private final Shelf texts = new Shelf(TEXTS, TEXT_PLACES, BLANK);
    private final House house = new House();
    /** What is asked of times to come is tried on these, so that the HOUSE stays as it is. */
    private final Kin aside = new Kin();
    private final int[] duelWorth = new int[DUEL_WAYS];
    private final int[] duelBefore = new int[DUEL_WAYS];
    private final int[] findingCounts = new int[LAST_FINDING + 1];
    private int latestFinding = 0;
    private int latestAsked = 0;
    private long latestUpper = 0;
    private long latestLower = 1;

    public FiddleShares() {
    }

    // ---- 1 rows, texts, houses

    public int row(int r, int n) {
        if (!isRow(r) || n > ROW_PLACES) {
            return BAD;
        }
        if (n < 0) {
            return refuse(SIZE);
        }
        rows.lie(r, n);
        return n;
    }

    public int lay(int r, int i, int v) {
        int refusal = refusePlace(r, i);
        if (refusal != 0) {
            return refusal;
        }
        latestAsked = rows.cells[r][i];
        rows.cells[r][i] = v;
        return 1;
    }

    public int at(int r, int i) {
        int refusal = refusePlace(r, i);
        if (refusal != 0) {
            return refusal;
        }
        return tell(rows.cells[r][i], 1);
    }

    public int tear(int r) {
        if (!isRow(r)) {
            return BAD;
        }
        if (!rows.has(r)) {
            return refuse(NOTHING);
        }
        rows.sizes[r] = MISSING;
        return 1;
    }

    public int copy(int r, int i, int to, int j, int n) {
        if (!isRow(r) || !isRow(to)) {
            return BAD;
        }
        if (n < 0) {
            return refuse(SIZE);
        }
        if (!rows.has(r) || !rows.has(to)) {
            return refuse(NOTHING);
        }
        if (!rows.reaches(r, i, n) || !rows.reaches(to, j, n)) {
            return refuse(BEYOND);
        }
        System.arraycopy(rows.cells[r], i, rows.cells[to], j, n);
        return 1;
    }

    public int mean(int r) {
        if (!isRow(r)) {
            return BAD;
        }
        if (!rows.has(r)) {
            return refuse(NOTHING);
        }
        int size = rows.sizes[r];
        if (size <= 0) {
            return refuse(NOUGHT);
        }
        return tell((int) (rows.sum(r) / size), 1);
    }

    public int text(int t, int n) {
        if (!isText(t) || n > TEXT_PLACES) {
            return BAD;
        }
        if (n < 0) {
            return refuse(SIZE);
        }
        texts.lie(t, n);
        return n;
    }

    public int put(int t, int i, int v) {
        if (!isText(t)) {
            return BAD;
        }
        if (!texts.has(t)) {
            return refuse(NOTHING);
        }
        if (!texts.reaches(t, i, 1)) {
            return refuse(BEYOND);
        }
        int was = texts.cells[t][i];
        texts.cells[t][i] = (byte) v;
        return was + 1000;
    }

    public int fault(int t) {
        if (!isText(t)) {
            return BAD;
        }
        if (!texts.has(t)) {
            return refuse(NOTHING);
        }
        return aside.read(texts.cells[t], texts.sizes[t]);
    }

    public int house(int t) {
        if (!isText(t)) {
            return BAD;
        }
        if (!texts.has(t)) {
            return refuse(NOTHING);
        }
        if (aside.read(texts.cells[t], texts.sizes[t]) != NONE) {
            return STATE;
        }
        house.found(aside);
        return house.now.size;
    }

    public int one(int i, int what) {
        if (!isKin(i) || what < 0 || what > LAST_OF_ONE) {
            return BAD;
        }
        return tell(ofOne(i, what), 1);
    }

    public int mark(int i, int kind) {
        if (!isKin(i) || kind <= 0 || kind >= KINDS) {
            return BAD;
        }
        if (!Kin.isOf(house.now.kind[i], kind)) {
            return refuse(UNLIKE);
        }
        int own = house.now.regardAs(i, house.now.kind[i]);
        return Math.abs(own - house.now.regardAs(i, Kin.kindAbove(kind)));
    }

    public int regard(int i, int soot, int purse) {
        if (!isKin(i) || soot < 0 || soot > MOST_SOOT || purse < 0 || purse > MOST_PURSE) {
            return BAD;
        }
        return Kin.regardOf(house.now.kind[i], house.now.look[i], soot, purse);
    }

    // ---- 2 deeds

    public int quarter() {
        if (noKin() || house.quarters >= LAST_QUARTER) {
            return STATE;
        }
        if (house.wouldOverflow(1)) {
            return FULL;
        }
        house.enter(House.deed(PASSING, 0, 0, 0));
        return house.now.given;
    }

    public int soot(int i) {
        if (!isKin(i)) {
            return BAD;
        }
        if (house.now.sooted[i] >= MOST_SOOT) {
            return STATE;
        }
        if (house.wouldOverflow(1)) {
            return FULL;
        }
        house.enter(House.deed(SOOTING, i, 0, 0));
        return house.now.sooted[i];
    }

    public int wash(int i) {
        if (!isKin(i)) {
            return BAD;
        }
        int had = house.now.sooted[i];
        if (had == 0) {
            return STATE;
        }
        if (house.wouldOverflow(1)) {
            return FULL;
        }
        house.enter(House.deed(WASHING, i, 0, 0));
        return had;
    }

    public int gift(int i, int j, int v) {
        if (!areTwo(i, j) || v < 1 || v > MOST_PURSE) {
            return BAD;
        }
        if (house.now.purse[i] < v) {
            return STATE;
        }
        if (house.wouldOverflow(1)) {
            return FULL;
        }
        house.enter(House.deed(GIVING, i, j, v));
        return house.now.purse[j];
    }

    public int undo(int n) {
        if (n < 0 || n > house.done) {
            return BAD;
        }
        int undone = house.done - n;
        house.replay(n);
        return undone;
    }

    public int keep(int k) {
        if (!isKept(k)) {
            return BAD;
        }
        if (noKin()) {
            return STATE;
        }
        house.store(k);
        return house.done;
    }

    public int on(int k) {
        if (!isKept(k)) {
            return BAD;
        }
        if (house.keptDone[k] == MISSING) {
            return refuse(NOTHING);
        }
        house.restore(k);
        return house.done;
    }

    // ---- 3 quarters to come

    public int box() {
        if (noKin()) {
            return STATE;
        }
        house.now.weigh();
        return tell(house.now.foremost, house.now.given);
    }

    public int later(int i, int n) {
        if (!isKin(i) || n < 0 || n > FAR_QUARTERS) {
            return BAD;
        }
        aside.take(house.now);
        int paid = 0;
        for (int q = 0; q < n; q++) {
            aside.pass();
            paid += aside.paid[i];
        }
        return tell(paid, aside.purse[i]);
    }

    public int settles() {
        if (noKin()) {
            return STATE;
        }
        aside.take(house.now);
        for (int q = 0; q <= FAR_QUARTERS; q++) {
            if (!aside.pass()) {
                return tell(aside.given, q);
            }
        }
        return NONE;
    }

    public int mill(int v) {
        if (v < 0 || v > MOST_PURSE) {
            return BAD;
        }
        if (noKin()) {
            return STATE;
        }
        aside.take(house.now);
        for (int q = 0; q <= FAR_QUARTERS; q++) {
            int owner = aside.firstWith(v);
            if (owner != NONE) {
                return tell(q, owner);
            }
            aside.pass();
        }
        return NONE;
    }

    // ---- 4 what to do

    public int gains(int n) {
        if (n < 1 || n > GAIN_QUARTERS) {
            return BAD;
        }
        if (noKin()) {
            return STATE;
        }
        int gaining = 0;
        for (int i = 0; i < house.now.size; i++) {
            if (house.now.sooted[i] < MOST_SOOT && purseBehind(i, 1, n) > purseBehind(i, 0, n)) {
                gaining |= 1 << i;
            }
        }
        return gaining;
    }

    public int even(int i, int j, int n, int r) {
        if (!areTwo(i, j) || n < 0 || n > NEAR_QUARTERS || !isRow(r)) {
            return BAD;
        }
        int size = house.now.size;
        int ways = 1 << (2 * size);
        for (int few = 0; few <= size; few++) {
            for (int way = 0; way < ways; way++) {
                if (changedBy(way) == few && evenBy(way, i, j, n)) {
                    laySoot(r, way);
                    return few;
                }
            }
        }
        return NONE;
    }

    public int change(int n) {
        if (n < 1 || n > NEAR_QUARTERS) {
            return BAD;
        }
        if (noKin()) {
            return STATE;
        }
        int size = house.now.size;
        int least = givenIfChanged(0, 0, n);
        int two = NONE;
        for (int a = 0; a < size; a++) {
            for (int b = a + 1; b < size; b++) {
                int given = givenIfChanged(a, b, n);
                if (given < least) {
                    least = given;
                    two = 10 * a + b;
                }
            }
        }
        return two == NONE ? NONE : tell(least, two);
    }

    // ---- 5 how one was looked at

    public int looks(int i, int r) {
        int refusal = refusePairs(i, r);
        if (refusal != 0) {
            return refusal;
        }
        int set = 0;
        for (int look = 0; look <= MOST_LOOK; look++) {
            if (fitsPairs(r, house.now.kind[i], look, house.now.sooted[i])) {
                set |= 1 << look;
            }
        }
        return set;
    }

    public int kinds(int i, int r) {
        int refusal = refusePairs(i, r);
        return refusal != 0 ? refusal : kindsByPairs(i, r);
    }

    public int test(int i, int r) {
        int refusal = refusePairs(i, r);
        if (refusal != 0) {
            return refusal;
        }
        int set = kindsByPairs(i, r);
        if (set == 0) {
            return NONE;
        }
        int best = 0;
        int least = KINDS + 1;
        for (int purse = 0; purse <= MOST_PURSE; purse++) {
            int part = greatestPart(i, set, purse);
            if (part < least) {
                least = part;
                best = purse;
            }
        }
        return tell(least, best);
    }

    // ---- 6 by turns

    public int duel(int i, int j, int n) {
        if (!areTwo(i, j) || n < 0 || n > MOST_TURNS) {
            return BAD;
        }
        for (int way = 0; way < DUEL_WAYS; way++) {
            duelWorth[way] = duelEnd(i, j, way);
        }
        for (int turn = n - 1; turn >= 0; turn--) {
            System.arraycopy(duelWorth, 0, duelBefore, 0, DUEL_WAYS);
            for (int way = 0; way < DUEL_WAYS; way++) {
                duelWorth[way] = turn % 2 == 0 ? bestForFirst(way) : bestForSecond(way);
            }
        }
        return duelWorth[duelWay(house.now.sooted[i], house.now.sooted[j])] + DUEL_EVEN;
    }

    // ---- 7 chances, lots

    public int odds(int i, int v, int p) {
        if (!isKin(i) || v < 0 || v > MOST_PAID || p < 0 || p > TWELVE) {
            return BAD;
        }
        house.now.weigh();
        long sum = 0;
        for (int set = 0; set < 1 << house.now.size; set++) {
            if (house.now.paidUnless(set, i) >= v) {
                sum += chanceOf(set, p);
            }
        }
        tellPart(sum);
        return 1;
    }

    public int mid(int p) {
        if (p < 0 || p > TWELVE) {
            return BAD;
        }
        if (noKin()) {
            return STATE;
        }
        house.now.weigh();
        long sum = 0;
        for (int set = 0; set < 1 << house.now.size; set++) {
            sum += chanceOf(set, p) * givenUnless(set);
        }
        tellPart(sum);
        return 1;
    }

    public int lots(int n, int seed) {
        if (n < 1 || n > MOST_LOTS || seed < 1 || seed >= LOT_MODULUS) {
            return BAD;
        }
        if (noKin()) {
            return STATE;
        }
        if (house.wouldOverflow(n)) {
            return FULL;
        }
        long lot = seed;
        for (int k = 0; k < n; k++) {
            lot = lot * LOT_FACTOR % LOT_MODULUS;
            house.enter(deedByLot((int) lot));
        }
        return house.now.allPurses();
    }

    // ---- 8 what is told

    public int asked() {
        return latestAsked;
    }

    public long upper() {
        return latestUpper;
    }

    public long lower() {
        return latestLower;
    }

    public int count(int what) {
        if (what < 0 || what > LAST_COUNT) {
            return BAD;
        }
        return counted(what);
    }

    public int finding() {
        return latestFinding;
    }

    public int findings(int f) {
        if (f < 1 || f > LAST_FINDING) {
            return BAD;
        }
        return findingCounts[f];
    }

    public long digest() {
        long h = 17;
        for (int what = 0; what <= LAST_COUNT; what++) {
            h = 31 * h + counted(what);
        }
        for (int i = 0; i < house.now.size; i++) {
            for (int what = 0; what <= LAST_OF_ONE; what++) {
                h = 31 * h + ofOne(i, what);
            }
        }
        for (int k = 0; k < KEPT; k++) {
            h = 31 * h + house.keptDone[k];
        }
        return texts.mixInto(rows.mixInto(h));
    }

    // ---- numbers that are none, refusals, what is told

    private static boolean isRow(int r) {
        return r >= 0 && r < ROWS;
    }

    private static boolean isText(int t) {
        return t >= 0 && t < TEXTS;
    }

    private static boolean isKept(int k) {
        return k >= 0 && k < KEPT;
    }

    private boolean isKin(int i) {
        return i >= 0 && i < house.now.size;
    }

    private boolean areTwo(int i, int j) {
        return isKin(i) && isKin(j) && i != j;
    }

    private boolean noKin() {
        return house.now.size == 0;
    }

    private int refuse(int f) {
        latestFinding = f;
        findingCounts[f]++;
        return FINDING;
    }

    /** 0: the place is there. */
    private int refusePlace(int r, int i) {
        if (!isRow(r)) {
            return BAD;
        }
        if (!rows.has(r)) {
            return refuse(NOTHING);
        }
        return rows.reaches(r, i, 1) ? 0 : refuse(BEYOND);
    }

    /** 0: the ROW holds pairs of a PURSE and how one was REGARDED with it. */
    private int refusePairs(int i, int r) {
        if (!isKin(i) || !isRow(r)) {
            return BAD;
        }
        if (!rows.has(r)) {
            return refuse(NOTHING);
        }
        if (rows.sizes[r] % 2 != 0) {
            return refuse(SIZE);
        }
        for (int k = 0; k < rows.sizes[r]; k++) {
            int v = rows.cells[r][k];
            if (v < 0 || v > (k % 2 == 0 ? MOST_PURSE : MOST_REGARD)) {
                return refuse(UNLIKE);
            }
        }
        return 0;
    }

    private int tell(int told, int answer) {
        latestAsked = told;
        return answer;
    }

    /** Tells parts of 12 to the power of how many KIN there are, which is what all the chances add up to. */
    private void tellPart(long part) {
        long whole = 1;
        for (int i = 0; i < house.now.size; i++) {
            whole *= TWELVE;
        }
        long common = commonDivisor(whole, part);
        if (common <= 0) {
            return;
        }
        latestUpper = part / common;
        latestLower = whole / common;
    }

    /** The bound is far above the steps that two numbers below a million millions can need. */
    private static long commonDivisor(long a, long b) {
        for (int k = 0; k < 200 && b != 0; k++) {
            long rest = a % b;
            a = b;
            b = rest;
        }
        return a;
    }

    private int ofOne(int i, int what) {
        Kin now = house.now;
        now.weigh();
        switch (what) {
            case 0: return now.kind[i];
            case 1: return now.look[i];
            case 2: return now.wants[i];
            case 3: return now.purse[i];
            case 4: return now.sooted[i];
            case 5: return now.regarded[i];
            default: return now.paid[i];
        }
    }

    private int counted(int what) {
        Kin now = house.now;
        switch (what) {
            case 0: return now.size;
            case 1: return house.quarters;
            case 2: return house.done;
            case 3: return now.allPurses();
            case 4: return now.allSooted();
            case 5: return now.highestRegard();
            case 6: return rows.present();
            case 7: return texts.present();
            case 8: return house.allKept();
            case 9: return now.allOf(SISTER);
            default: return now.allOf(PATCHED);
        }
    }

    // ---- what the calls aside try

    private int purseBehind(int i, int moreSoot, int n) {
        aside.take(house.now);
        aside.sooted[i] += moreSoot;
        aside.passAll(n);
        return aside.purse[i];
    }

    /** A way tells all KIN's SOOT by two bits each, the first one's highest, so that ways rise as ROWS of SOOT do. */
    private int sootBy(int way, int i) {
        return (way >> (2 * (house.now.size - 1 - i))) & 3;
    }

    private int changedBy(int way) {
        int changed = 0;
        for (int i = 0; i < house.now.size; i++) {
            if (sootBy(way, i) != house.now.sooted[i]) {
                changed++;
            }
        }
        return changed;
    }

    private boolean evenBy(int way, int i, int j, int n) {
        aside.take(house.now);
        for (int k = 0; k < aside.size; k++) {
            aside.sooted[k] = sootBy(way, k);
        }
        aside.passAll(n);
        return aside.purse[i] == aside.purse[j];
    }

    private void laySoot(int r, int way) {
        rows.lie(r, house.now.size);
        for (int i = 0; i < house.now.size; i++) {
            rows.cells[r][i] = sootBy(way, i);
        }
    }

    private int givenIfChanged(int a, int b, int n) {
        aside.take(house.now);
        aside.look[a] = house.now.look[b];
        aside.look[b] = house.now.look[a];
        return aside.passAll(n);
    }

    private boolean fitsPairs(int r, int kind, int look, int soot) {
        int[] cells = rows.cells[r];
        for (int k = 0; k + 1 < rows.sizes[r]; k += 2) {
            if (Kin.regardOf(kind, look, soot, cells[k]) != cells[k + 1]) {
                return false;
            }
        }
        return true;
    }

    private int kindsByPairs(int i, int r) {
        int set = 0;
        for (int kind = 0; kind < KINDS; kind++) {
            if (fitsPairs(r, kind, house.now.look[i], house.now.sooted[i])) {
                set |= 1 << kind;
            }
        }
        return set;
    }

    private int greatestPart(int i, int set, int purse) {
        int greatest = 0;
        for (int kind = 0; kind < KINDS; kind++) {
            if ((set >> kind & 1) != 0) {
                greatest = Math.max(greatest, partLike(kind, i, set, purse));
            }
        }
        return greatest;
    }

    private int partLike(int kind, int i, int set, int purse) {
        int look = house.now.look[i];
        int soot = house.now.sooted[i];
        int regarded = Kin.regardOf(kind, look, soot, purse);
        int part = 0;
        for (int other = 0; other < KINDS; other++) {
            if ((set >> other & 1) != 0 && Kin.regardOf(other, look, soot, purse) == regarded) {
                part++;
            }
        }
        return part;
    }

    // ---- the duel: only the SOOT of two changes in it, so 16 ways tell all that can be

    private static int duelWay(int first, int second) {
        return 4 * first + second;
    }

    private int duelEnd(int i, int j, int way) {
        aside.take(house.now);
        aside.sooted[i] = way / 4;
        aside.sooted[j] = way % 4;
        aside.passAll(DUEL_QUARTERS);
        return aside.purse[i] - aside.purse[j];
    }

    /** To be WASHED without SOOT is to do nothing, so it needs no asking. */
    private int bestForFirst(int way) {
        int own = way / 4;
        int other = way % 4;
        int more = Math.min(own + 1, MOST_SOOT);
        int best = Math.max(duelBefore[way], duelBefore[duelWay(0, other)]);
        return Math.max(best, duelBefore[duelWay(more, other)]);
    }

    private int bestForSecond(int way) {
        int other = way / 4;
        int own = way % 4;
        int more = Math.min(own + 1, MOST_SOOT);
        int best = Math.min(duelBefore[way], duelBefore[duelWay(other, 0)]);
        return Math.min(best, duelBefore[duelWay(other, more)]);
    }

    // ---- chances, lots

    /** How many of the 12 to the power of all KIN fall on just this set being overlooked. */
    private long chanceOf(int set, int p) {
        long parts = 1;
        for (int i = 0; i < house.now.size; i++) {
            parts *= (set >> i & 1) != 0 ? p : TWELVE - p;
        }
        return parts;
    }

    private int givenUnless(int set) {
        int given = 0;
        for (int i = 0; i < house.now.size; i++) {
            given += house.now.paidUnless(set, i);
        }
        return given;
    }

    private int deedByLot(int lot) {
        int size = house.now.size;
        if (size <= 0) {
            return House.deed(IDLE, 0, 0, 0);
        }
        int who = lot / 8 % size;
        switch (lot % 4) {
            case 0: return House.deed(house.now.sooted[who] < MOST_SOOT ? SOOTING : WASHING, who, 0, 0);
            case 1: return House.deed(WASHING, who, 0, 0);
            default: return House.deed(house.quarters < LAST_QUARTER ? PASSING : IDLE, 0, 0, 0);
        }
    }

    /** ROWS, or TEXTS: each there with so many places, or missing. */
    private static final class Shelf {
        final int[][] cells;
        final int[] sizes;
        final int empty;

        Shelf(int howMany, int places, int empty) {
            this.cells = new int[Math.max(0, howMany)][Math.max(0, places)];
            this.sizes = new int[Math.max(0, howMany)];
            this.empty = empty;
            Arrays.fill(this.sizes, MISSING);
        }

        void lie(int r, int n) {
            sizes[r] = n;
            for (int i = 0; i < n; i++) {
                cells[r][i] = empty;
            }
        }

        boolean has(int r) {
            return sizes[r] != MISSING;
        }

        /** By what is left behind i, since i + n may go round. */
        boolean reaches(int r, int i, int n) {
            return i >= 0 && n <= sizes[r] - i;
        }

        long sum(int r) {
            long sum = 0;
            for (int i = 0; i < sizes[r]; i++) {
                sum += cells[r][i];
            }
            return sum;
        }

        int present() {
            int present = 0;
            for (int r = 0; r < sizes.length; r++) {
                if (has(r)) {
                    present++;
                }
            }
            return present;
        }

        long mixInto(long start) {
            long h = start;
            for (int r = 0; r < sizes.length; r++) {
                h = 31 * h + sizes[r];
                for (int i = 0; i < sizes[r]; i++) {
                    h = 31 * h + cells[r][i];
                }
            }
            return h;
        }
    }

    /** All KIN of a HOUSE as they are at one time. */
    private static final class Kin {
        int size = 0;
        final int[] kind = new int[MOST_KIN];
        final int[] look = new int[MOST_KIN];
        final int[] wants = new int[MOST_KIN];
        final int[] purse = new int[MOST_KIN];
        final int[] sooted = new int[MOST_KIN];
        /** These, and the two numbers below, are as they were when they were weighed last. */
        final int[] regarded = new int[MOST_KIN];
        final int[] paid = new int[MOST_KIN];
        int foremost = 0;
        int given = 0;

        void take(Kin other) {
            size = other.size;
            System.arraycopy(other.kind, 0, kind, 0, MOST_KIN);
            System.arraycopy(other.look, 0, look, 0, MOST_KIN);
            System.arraycopy(other.wants, 0, wants, 0, MOST_KIN);
            System.arraycopy(other.purse, 0, purse, 0, MOST_KIN);
            System.arraycopy(other.sooted, 0, sooted, 0, MOST_KIN);
        }

        /** The FAULT of a TEXT; NONE: these are then the KIN that it tells. */
        int read(int[] text, int length) {
            size = 0;
            int place = 0;
            while (place < length) {
                if (text[place] == BLANK) {
                    place++;
                } else {
                    int stop = size == MOST_KIN ? place : readItem(text, length, place);
                    if (stop != NONE) {
                        return stop;
                    }
                    place += ITEM;
                }
            }
            return size < FEWEST_KIN ? length : NONE;
        }

        int readItem(int[] text, int length, int start) {
            int told = kindByLetter(text[start]);
            if (told == MISSING) {
                return start;
            }
            for (int place = start + 1; place < start + ITEM; place++) {
                if (place >= length) {
                    return length;
                }
                if (text[place] < '0' || text[place] > '9') {
                    return place;
                }
            }
            kind[size] = told;
            look[size] = text[start + 1] - '0';
            wants[size] = text[start + 2] - '0';
            purse[size] = 10 * (text[start + 3] - '0') + text[start + 4] - '0';
            sooted[size] = 0;
            size++;
            return NONE;
        }

        static int kindByLetter(int letter) {
            switch (letter) {
                case 'k': return 0;
                case 's': return SISTER;
                case 'm': return MILLER;
                case 'p': return PATCHED;
                case 'j': return JULIA;
                case 'u': return UNLISTED;
                default: return MISSING;
            }
        }

        static int kindAbove(int kind) {
            switch (kind) {
                case JULIA: return SISTER;
                case UNLISTED: return PATCHED;
                default: return 0;
            }
        }

        static boolean isOf(int kind, int wanted) {
            return kind == wanted || kindAbove(kind) == wanted;
        }

        static int regardOf(int kind, int look, int soot, int purse) {
            int plain = look > 2 * soot ? look - 2 * soot : 0;
            int asSister = purse >= 20 ? plain + 2 : plain;
            int asPatched = purse < 10 && plain > 0 ? plain - 1 : plain;
            switch (kind) {
                case SISTER: return asSister;
                // a PURSE is 99 at most, so this is 9 at most more
                case MILLER: return plain + purse / 10;
                case PATCHED: return asPatched;
                case JULIA: return 2 * asSister;
                case UNLISTED: return asPatched / 2;
                default: return plain;
            }
        }

        int regardAs(int i, int asKind) {
            return regardOf(asKind, look[i], sooted[i], purse[i]);
        }

        /** What the next QUARTER would give, without its passing. */
        void weigh() {
            foremost = 0;
            for (int i = 0; i < size; i++) {
                regarded[i] = regardOf(kind[i], look[i], sooted[i], purse[i]);
                if (regarded[i] > regarded[foremost]) {
                    foremost = i;
                }
            }
            given = 0;
            for (int i = 0; i < size; i++) {
                paid[i] = regarded[foremost] - regarded[i];
                given += paid[i];
            }
        }

        /** A QUARTER passes: whether it changes a PURSE. */
        boolean pass() {
            weigh();
            boolean changes = false;
            for (int i = 0; i < size; i++) {
                int then = Math.max(0, Math.min(MOST_PURSE, purse[i] + paid[i] - wants[i]));
                if (then != purse[i]) {
                    changes = true;
                }
                purse[i] = then;
            }
            return changes;
        }

        /** So many QUARTERS pass: what the BOX gives in all of them. */
        int passAll(int n) {
            int sum = 0;
            for (int q = 0; q < n; q++) {
                pass();
                sum += given;
            }
            return sum;
        }

        /** As weighed, but for the set that is overlooked. */
        int paidUnless(int set, int i) {
            int most = 0;
            for (int k = 0; k < size; k++) {
                most = Math.max(most, regardedUnless(set, k));
            }
            return most - regardedUnless(set, i);
        }

        int regardedUnless(int set, int i) {
            return (set >> i & 1) != 0 ? 0 : regarded[i];
        }

        int firstWith(int v) {
            for (int i = 0; i < size; i++) {
                if (purse[i] >= v) {
                    return i;
                }
            }
            return NONE;
        }

        int highestRegard() {
            weigh();
            return size == 0 ? 0 : regarded[foremost];
        }

        int allPurses() {
            int sum = 0;
            for (int i = 0; i < size; i++) {
                sum += purse[i];
            }
            return sum;
        }

        int allSooted() {
            int set = 0;
            for (int i = 0; i < size; i++) {
                if (sooted[i] > 0) {
                    set |= 1 << i;
                }
            }
            return set;
        }

        int allOf(int wanted) {
            int many = 0;
            for (int i = 0; i < size; i++) {
                if (isOf(kind[i], wanted)) {
                    many++;
                }
            }
            return many;
        }
    }

    /** The KIN as told at first and as they are now, with the DEEDS that lead from the one to the other. */
    private static final class House {
        final Kin first = new Kin();
        final Kin now = new Kin();
        int quarters = 0;
        int done = 0;
        final int[] deeds = new int[MOST_DEEDS];
        /** DEEDS alone are kept: a new HOUSE drops all that is kept, so they all begin with the same KIN. */
        final int[][] keptDeeds = new int[KEPT][MOST_DEEDS];
        final int[] keptDone = new int[KEPT];

        House() {
            Arrays.fill(keptDone, MISSING);
        }

        void found(Kin told) {
            first.take(told);
            replay(0);
            Arrays.fill(keptDone, MISSING);
        }

        static int deed(int what, int who, int whom, int much) {
            return what | who << 3 | whom << 6 | much << 9;
        }

        boolean wouldOverflow(int more) {
            return more > MOST_DEEDS - done;
        }

        void enter(int deed) {
            if (wouldOverflow(1)) {
                return;
            }
            deeds[done] = deed;
            done++;
            perform(deed);
        }

        void perform(int deed) {
            int who = deed >> 3 & 7;
            int whom = deed >> 6 & 7;
            int much = deed >> 9;
            if (who >= now.size || whom >= now.size) {
                return;
            }
            switch (deed & 7) {
                case PASSING:
                    now.pass();
                    quarters++;
                    break;
                case SOOTING:
                    now.sooted[who]++;
                    break;
                case WASHING:
                    now.sooted[who] = 0;
                    break;
                case GIVING:
                    now.purse[who] -= much;
                    now.purse[whom] = Math.min(MOST_PURSE, now.purse[whom] + much);
                    break;
                default:
                    break;
            }
        }

        /** The HOUSE as it was behind its first n DEEDS. */
        void replay(int n) {
            now.take(first);
            quarters = 0;
            done = n;
            for (int k = 0; k < n; k++) {
                perform(deeds[k]);
            }
        }

        void store(int k) {
            System.arraycopy(deeds, 0, keptDeeds[k], 0, MOST_DEEDS);
            keptDone[k] = done;
        }

        void restore(int k) {
            System.arraycopy(keptDeeds[k], 0, deeds, 0, MOST_DEEDS);
            replay(keptDone[k]);
        }

        int allKept() {
            int many = 0;
            for (int k = 0; k < KEPT; k++) {
                if (keptDone[k] != MISSING) {
                    many++;
                }
            }
            return many;
        }
    }
}
