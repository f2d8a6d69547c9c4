import java.util.Arrays;

/** A delta whose floods are told by the hems of the women who stand in a line on its dyke. */
public final class HemLine {
    public static final int BAD = -1, FULL = -2, FINDING = -3, STATE = -4, SPENT = -6, NONE = -9;

    private static final int NOTHING = 1, BEYOND = 2, UNLIKE = 3, NOUGHT = 4, SIZE = 5;
    private static final int FINE = 0;
    private static final int MISSING = -1;

    private static final int ROWS = 6, MOST_INTS = 40, TEXTS = 4, MOST_BYTES = 60, KEPT = 3;
    private static final int PLACES = 6, BANK_PLACES = 3, MOST_WOMEN = 6, MOST_YEARS = 8, MOST_DEEDS = 40;
    private static final int TOP_HEIGHT = 20, TOP_GROUND = 9, TOP_TUCK = 3, TOP_HEM = 10, MOST_DYKES = 6;
    private static final int ALL_HEIGHTS = (1 << (TOP_HEIGHT + 1)) - 1;
    private static final int BLANK = 32;

    private static final int WOMAN = 0, BRIDE = 1, LIAR = 2, WIDOW = 3, GIRL = 4, AUNT = 5, KINDS = 6;
    private static final int FLOOD = 0, MOVE = 1, DYKE = 2, TUCK = 3;

    private static final int WOMAN_FACTS = 6, COUNTS = 11;
    private static final int MOST_LOTS = 20, LOT_MODULUS = 2147483647;
    private static final long LOT_FACTOR = 48271;

    private final Shelf rows = new Shelf(new int[ROWS], new int[ROWS][MOST_INTS]);
    private final Shelf texts = new Shelf(new int[TEXTS], new int[TEXTS][MOST_BYTES]);
    private final Reader reader = new Reader();
    private final Delta now = new Delta();
    private final Delta[] kept = new Delta[KEPT];
    private final Dykes dykes = new Dykes();
    private final int[] tally = new int[TOP_HEM + 1];
    private final int[] findingCounts = new int[SIZE + 1];
    private int latestFinding;
    private int told;
    private long upperTold;
    private long lowerTold = 1;

    public HemLine() {
        for (int k = 0; k < kept.length; k++) {
            kept[k] = new Delta();
        }
    }

    // ---- 1 rows, texts, deltas

    public int row(int r, int n) {
        return makeItem(rows, r, n, MOST_INTS, 0);
    }

    public int lay(int r, int i, int v) {
        int refusal = refusalOfCell(rows, r, i);
        if (refusal != FINE) {
            return refusal;
        }
        told = rows.cell(r, i);
        rows.setCell(r, i, v);
        return 1;
    }

    public int at(int r, int i) {
        int refusal = refusalOfCell(rows, r, i);
        if (refusal != FINE) {
            return refusal;
        }
        told = rows.cell(r, i);
        return 1;
    }

    public int tear(int r) {
        int refusal = refusalOfItem(rows, r);
        if (refusal != FINE) {
            return refusal;
        }
        rows.remove(r);
        return 1;
    }

    public int copy(int r, int i, int to, int j, int n) {
        if (!rows.isNumber(r) || !rows.isNumber(to)) {
            return BAD;
        }
        if (n < 0) {
            return found(SIZE);
        }
        if (!rows.isThere(r) || !rows.isThere(to)) {
            return found(NOTHING);
        }
        if (!rows.hasStretch(r, i, n) || !rows.hasStretch(to, j, n)) {
            return found(BEYOND);
        }
        rows.copyCells(r, i, to, j, n);
        return 1;
    }

    public int mean(int r) {
        int refusal = refusalOfItem(rows, r);
        if (refusal != FINE) {
            return refusal;
        }
        int size = rows.sizeOf(r);
        if (size <= 0) {
            return found(NOUGHT);
        }
        long sum = 0;
        for (int i = 0; i < size; i++) {
            sum += rows.cell(r, i);
        }
        told = (int) (sum / size);
        return 1;
    }

    public int text(int t, int n) {
        return makeItem(texts, t, n, MOST_BYTES, BLANK);
    }

    public int put(int t, int i, int v) {
        int refusal = refusalOfCell(texts, t, i);
        if (refusal != FINE) {
            return refusal;
        }
        int was = texts.cell(t, i);
        texts.setCell(t, i, (byte) v);
        return was + 1000;
    }

    public int fault(int t) {
        int refusal = refusalOfItem(texts, t);
        return refusal != FINE ? refusal : faultOf(t);
    }

    public int delta(int t) {
        int refusal = refusalOfItem(texts, t);
        if (refusal != FINE) {
            return refusal;
        }
        if (faultOf(t) != NONE) {
            return STATE;
        }
        now.takeFrom(reader.draft);
        for (int k = 0; k < kept.length; k++) {
            Delta old = keptAt(k);
            if (old != null) {
                old.clear();
            }
        }
        return now.women;
    }

    public int woman(int i, int what) {
        if (!isWoman(i) || what < 0 || what >= WOMAN_FACTS) {
            return BAD;
        }
        told = womanFact(i, what);
        return 1;
    }

    public int mark(int i, int kind) {
        if (!isWoman(i) || kind <= WOMAN || kind >= KINDS) {
            return BAD;
        }
        if (!Kinds.isOf(item(now.kindOf, i), kind)) {
            return found(UNLIKE);
        }
        if (kind == AUNT) {
            return now.years & 1;
        }
        int sum = 0;
        for (int y = 0; y < now.years; y++) {
            sum += Kinds.markOf(kind, now.hemOf(i, y) - now.plainHemOf(i, y));
        }
        return sum;
    }

    public int hem(int i, int y) {
        return isWoman(i) && isPast(y) ? now.hemOf(i, y) : BAD;
    }

    public int would(int i, int f) {
        return isWoman(i) && isHeight(f) ? now.hemIfNow(i, f, item(now.kindOf, i)) : BAD;
    }

    // ---- 2 deeds

    public int flood(int f) {
        if (!isHeight(f)) {
            return BAD;
        }
        if (now.women == 0 || now.years >= MOST_YEARS) {
            return STATE;
        }
        if (now.deeds >= MOST_DEEDS) {
            return FULL;
        }
        now.doFlood(f);
        return now.howManyWet(f);
    }

    public int move(int i, int place) {
        if (!isWoman(i) || !isPlace(place)) {
            return BAD;
        }
        int was = item(now.placeOf, i);
        if (was == place) {
            return STATE;
        }
        if (now.deeds >= MOST_DEEDS) {
            return FULL;
        }
        now.doMove(i, place);
        return was;
    }

    public int dyke(int place) {
        if (!isPlace(place)) {
            return BAD;
        }
        if (now.women == 0 || item(now.ground, place) >= TOP_GROUND) {
            return STATE;
        }
        if (now.earth <= 0) {
            return SPENT;
        }
        if (now.deeds >= MOST_DEEDS) {
            return FULL;
        }
        now.doDyke(place);
        return item(now.ground, place);
    }

    public int tuck(int i) {
        if (!isWoman(i)) {
            return BAD;
        }
        if (item(now.tuckOf, i) >= TOP_TUCK) {
            return STATE;
        }
        if (now.deeds >= MOST_DEEDS) {
            return FULL;
        }
        now.doTuck(i);
        return item(now.tuckOf, i);
    }

    public int undo(int n) {
        if (n < 0 || n > now.deeds) {
            return BAD;
        }
        int many = now.deeds - n;
        for (int k = 0; k < many; k++) {
            now.undoLast();
        }
        return many;
    }

    public int keep(int k) {
        Delta place = keptAt(k);
        if (place == null) {
            return BAD;
        }
        if (now.women == 0) {
            return STATE;
        }
        place.takeFrom(now);
        return now.deeds;
    }

    public int on(int k) {
        Delta place = keptAt(k);
        if (place == null) {
            return BAD;
        }
        if (place.women == 0) {
            return found(NOTHING);
        }
        now.takeFrom(place);
        return now.deeds;
    }

    // ---- 3 how high it was

    public int know(int set, int y) {
        if (!isSet(set) || !isPast(y)) {
            return BAD;
        }
        int heights = now.knownBy(set, y);
        told = Integer.bitCount(heights);
        return heights;
    }

    public int high(int y) {
        if (!isPast(y)) {
            return BAD;
        }
        int heights = now.knownBy(now.everyone(), y);
        // The HEIGHT that it truly was always FITS: if just one does, it is this.
        return Integer.bitCount(heights) == 1 ? item(now.heightOf, y) : NONE;
    }

    public int look(int set, int y) {
        if (!isSet(set) || !isPast(y)) {
            return BAD;
        }
        int heights = now.knownBy(set, y);
        int best = NONE;
        int bestPart = 0;
        for (int i = 0; i < now.women; i++) {
            if (!hasBit(set, i)) {
                int part = greatestPartOfHeights(i, y, heights);
                if (best == NONE || part < bestPart) {
                    best = i;
                    bestPart = part;
                }
            }
        }
        if (best != NONE) {
            told = bestPart;
        }
        return best;
    }

    public int looks(int y) {
        if (!isPast(y)) {
            return BAD;
        }
        int best = now.everyone();
        int heights = now.knownBy(best, y);
        for (int set = 0; set < now.everyone(); set++) {
            if (Integer.bitCount(set) < Integer.bitCount(best) && now.knownBy(set, y) == heights) {
                best = set;
            }
        }
        told = best;
        return Integer.bitCount(best);
    }

    public int line(int y) {
        if (!isPast(y)) {
            return BAD;
        }
        int changes = 0;
        int first = 0;
        for (int i = 0; i < now.women; i++) {
            for (int j = i + 1; j < now.women; j++) {
                if (now.hemOf(j, y) < now.hemOf(i, y)) {
                    changes++;
                }
            }
            if (now.hemOf(i, y) < now.hemOf(first, y)) {
                first = i;
            }
        }
        told = first;
        return changes;
    }

    // ---- 4 who one is

    public int kinds(int i, int r) {
        int refusal = refusalOfPairs(i, r);
        return refusal != FINE ? refusal : kindsBy(i, r);
    }

    public int test(int i, int r) {
        int refusal = refusalOfPairs(i, r);
        if (refusal != FINE) {
            return refusal;
        }
        int set = kindsBy(i, r);
        if (set == 0) {
            return NONE;
        }
        int best = 0;
        int bestPart = greatestPartOfKinds(i, 0, set);
        for (int f = 1; f <= TOP_HEIGHT; f++) {
            int part = greatestPartOfKinds(i, f, set);
            if (part < bestPart) {
                best = f;
                bestPart = part;
            }
        }
        told = bestPart;
        return best;
    }

    public int whose(int r) {
        if (!rows.isNumber(r)) {
            return BAD;
        }
        if (now.women == 0) {
            return STATE;
        }
        if (!rows.isThere(r)) {
            return found(NOTHING);
        }
        if (rows.sizeOf(r) > now.years) {
            return found(SIZE);
        }
        int set = 0;
        for (int i = 0; i < now.women; i++) {
            if (hemsBeginAs(i, r)) {
                set |= 1 << i;
            }
        }
        told = rows.sizeOf(r) == now.years ? set : 0;
        return set;
    }

    // ---- 5 dykes

    public int raise(int n, int f, int r) {
        if (n < 0 || n > MOST_DYKES || !isHeight(f) || !rows.isNumber(r)) {
            return BAD;
        }
        if (now.women == 0 || now.room() < n) {
            return STATE;
        }
        dykes.take(now);
        int wet = dykes.leastWet(n, f);
        rows.make(r, PLACES, 0);
        int left = n;
        for (int p = 0; p < PLACES; p++) {
            int raised = dykes.fewestAt(p, left, f);
            rows.setCell(r, p, raised);
            left -= raised;
        }
        return wet;
    }

    public int dry() {
        if (now.women == 0) {
            return STATE;
        }
        int lowest = TOP_GROUND;
        for (int i = 0; i < now.women; i++) {
            lowest = Math.min(lowest, now.groundUnder(i));
        }
        return lowest;
    }

    public int least(int i, int f, int v) {
        if (!isWoman(i) || !isHeight(f) || !isHeight(v)) {
            return BAD;
        }
        int ground = now.groundUnder(i);
        int due = Math.max(0, f - v - ground);
        return ground + due > TOP_GROUND ? NONE : due;
    }

    // ---- 6 by turns

    public int duel(int n, int f) {
        if (n < 0 || n > MOST_DYKES || !isHeight(f)) {
            return BAD;
        }
        if (now.women == 0) {
            return STATE;
        }
        dykes.take(now);
        return Dykes.playedOut(0, n, f, dykes.ground, dykes.folk) + 100;
    }

    // ---- 7 chances, lots

    public int odds(int v) {
        if (v < 0 || v > MOST_WOMEN) {
            return BAD;
        }
        if (now.women == 0 || now.years == 0) {
            return STATE;
        }
        int times = 0;
        for (int y = 0; y < now.years; y++) {
            if (now.howManyWet(item(now.heightOf, y)) >= v) {
                times++;
            }
        }
        tellParts(times, now.years);
        return 1;
    }

    public int mid() {
        if (now.women == 0 || now.years == 0) {
            return STATE;
        }
        int sum = 0;
        for (int y = 0; y < now.years; y++) {
            sum += now.wetTogether(item(now.heightOf, y));
        }
        tellParts(sum, now.years);
        return 1;
    }

    public int lots(int n, int seed) {
        if (n < 1 || n > MOST_LOTS || seed < 1 || seed >= LOT_MODULUS) {
            return BAD;
        }
        if (now.women <= 0) {
            return STATE;
        }
        if (now.deeds + n > MOST_DEEDS) {
            return FULL;
        }
        long number = seed;
        for (int k = 0; k < n; k++) {
            number = number * LOT_FACTOR % LOT_MODULUS;
            doByLot(number);
        }
        return now.years;
    }

    // ---- 8 what is told

    public int asked() {
        return told;
    }

    public long upper() {
        return upperTold;
    }

    public long lower() {
        return lowerTold;
    }

    public int count(int what) {
        switch (what) {
            case 0: return now.women;
            case 1: return now.years;
            case 2: return now.deeds;
            case 3: return now.earth;
            case 4: return sumOf(now.ground, PLACES);
            case 5: return sumOf(now.tuckOf, now.women);
            case 6: return now.lastHeight();
            case 7: return now.howManyOf(BRIDE);
            case 8: return rows.howMany();
            case 9: return texts.howMany();
            case 10: return howManyKept();
            default: return BAD;
        }
    }

    public int finding() {
        return latestFinding;
    }

    public int findings(int f) {
        return f >= NOTHING && f <= SIZE ? item(findingCounts, f) : BAD;
    }

    public long digest() {
        long h = 17;
        for (int what = 0; what < COUNTS; what++) {
            h = mixed(h, count(what));
        }
        for (int p = 0; p < PLACES; p++) {
            h = mixed(h, item(now.ground, p));
        }
        for (int i = 0; i < now.women; i++) {
            h = mixedWoman(h, i);
        }
        for (int k = 0; k < kept.length; k++) {
            h = mixed(h, deedsKept(k));
        }
        return mixedShelf(mixedShelf(h, rows), texts);
    }

    // ---- what is told, refused

    private int found(int f) {
        latestFinding = f;
        setItem(findingCounts, f, item(findingCounts, f) + 1);
        return FINDING;
    }

    private int refusalOfItem(Shelf shelf, int k) {
        if (!shelf.isNumber(k)) {
            return BAD;
        }
        return shelf.isThere(k) ? FINE : found(NOTHING);
    }

    private int refusalOfCell(Shelf shelf, int k, int i) {
        int refusal = refusalOfItem(shelf, k);
        if (refusal != FINE) {
            return refusal;
        }
        return shelf.isCell(k, i) ? FINE : found(BEYOND);
    }

    private int refusalOfPairs(int i, int r) {
        if (!isWoman(i)) {
            return BAD;
        }
        int refusal = refusalOfItem(rows, r);
        if (refusal != FINE) {
            return refusal;
        }
        int size = rows.sizeOf(r);
        if ((size & 1) != 0) {
            return found(SIZE);
        }
        for (int j = 0; j + 1 < size; j += 2) {
            int v = rows.cell(r, j + 1);
            if (!isHeight(rows.cell(r, j)) || v < 0 || v > TOP_HEM) {
                return found(UNLIKE);
            }
        }
        return FINE;
    }

    private int makeItem(Shelf shelf, int k, int n, int most, int v) {
        if (!shelf.isNumber(k) || n > most) {
            return BAD;
        }
        if (n < 0) {
            return found(SIZE);
        }
        shelf.make(k, n, v);
        return n;
    }

    private void tellParts(int up, int low) {
        int divisor = greatestDivisor(up, low);
        if (divisor > 0) {
            upperTold = up / divisor;
            lowerTold = low / divisor;
        }
    }

    private static int greatestDivisor(int up, int low) {
        for (int d = low; d > 1; d--) {
            if (up % d == 0 && low % d == 0) {
                return d;
            }
        }
        return 1;
    }

    // ---- what numbers are

    private boolean isWoman(int i) {
        return i >= 0 && i < now.women;
    }

    private boolean isPast(int y) {
        return y >= 0 && y < now.years;
    }

    private boolean isSet(int set) {
        return set >= 0 && set <= now.everyone();
    }

    private static boolean isPlace(int p) {
        return p >= 0 && p < PLACES;
    }

    private static boolean isHeight(int f) {
        return f >= 0 && f <= TOP_HEIGHT;
    }

    private static boolean hasBit(int set, int i) {
        return (set >> i & 1) != 0;
    }

    // ---- cells of arrays, each index tested here

    private static int item(int[] cells, int i) {
        return cells != null && i >= 0 && i < cells.length ? cells[i] : 0;
    }

    private static void setItem(int[] cells, int i, int v) {
        if (cells != null && i >= 0 && i < cells.length) {
            cells[i] = v;
        }
    }

    private static void copyItems(int[] from, int[] to) {
        if (from != null && to != null) {
            copyStretch(from, 0, to, 0, Math.min(from.length, to.length));
        }
    }

    private static void copyStretch(int[] from, int i, int[] to, int j, int n) {
        if (from == null || to == null || i < 0 || j < 0 || n < 0) {
            return;
        }
        if (n <= from.length - i && n <= to.length - j) {
            System.arraycopy(from, i, to, j, n);
        }
    }

    private static int sumOf(int[] cells, int many) {
        int sum = 0;
        for (int i = 0; i < many; i++) {
            sum += item(cells, i);
        }
        return sum;
    }

    // ---- parts of the calls

    private Delta keptAt(int k) {
        return k >= 0 && k < kept.length ? kept[k] : null;
    }

    private int deedsKept(int k) {
        Delta place = keptAt(k);
        return place == null || place.women == 0 ? MISSING : place.deeds;
    }

    private int howManyKept() {
        int many = 0;
        for (int k = 0; k < kept.length; k++) {
            if (deedsKept(k) != MISSING) {
                many++;
            }
        }
        return many;
    }

    private int faultOf(int t) {
        return reader.read(texts.cellsOf(t), texts.sizeOf(t));
    }

    private int womanFact(int i, int what) {
        switch (what) {
            case 0: return item(now.kindOf, i);
            case 1: return item(now.placeOf, i);
            case 2: return item(now.tallOf, i);
            case 3: return item(now.tuckOf, i);
            case 4: return now.years;
            default: return now.greatestHemOf(i);
        }
    }

    private int greatestPartOfHeights(int i, int y, int heights) {
        Arrays.fill(tally, 0);
        int greatest = 0;
        for (int f = 0; f <= TOP_HEIGHT; f++) {
            if (hasBit(heights, f)) {
                greatest = Math.max(greatest, oneMoreAlike(now.hemIfThen(i, y, f, item(now.kindOf, i))));
            }
        }
        return greatest;
    }

    private int greatestPartOfKinds(int i, int f, int set) {
        Arrays.fill(tally, 0);
        int greatest = 0;
        for (int kind = 0; kind < KINDS; kind++) {
            if (hasBit(set, kind)) {
                greatest = Math.max(greatest, oneMoreAlike(now.hemIfNow(i, f, kind)));
            }
        }
        return greatest;
    }

    private int oneMoreAlike(int v) {
        int many = item(tally, v) + 1;
        setItem(tally, v, many);
        return many;
    }

    private int kindsBy(int i, int r) {
        int set = 0;
        for (int kind = 0; kind < KINDS; kind++) {
            if (pairsFit(i, r, kind)) {
                set |= 1 << kind;
            }
        }
        return set;
    }

    private boolean pairsFit(int i, int r, int kind) {
        int size = rows.sizeOf(r);
        for (int j = 0; j + 1 < size; j += 2) {
            if (now.hemIfNow(i, rows.cell(r, j), kind) != rows.cell(r, j + 1)) {
                return false;
            }
        }
        return true;
    }

    private boolean hemsBeginAs(int i, int r) {
        int size = rows.sizeOf(r);
        for (int y = 0; y < size; y++) {
            if (now.hemOf(i, y) != rows.cell(r, y)) {
                return false;
            }
        }
        return true;
    }

    private void doByLot(long number) {
        if (number % 4 == 0 && now.years < MOST_YEARS) {
            now.doFlood((int) (number / 8 % (TOP_HEIGHT + 1)));
        } else if (now.women > 0) {
            now.doMove((int) (number / 8 % now.women), (int) (number / 64 % PLACES));
        }
    }

    private static long mixed(long h, int v) {
        return 31 * h + v;
    }

    private long mixedWoman(long h, int i) {
        for (int what = 0; what < WOMAN_FACTS; what++) {
            h = mixed(h, womanFact(i, what));
        }
        for (int y = 0; y < now.years; y++) {
            h = mixed(h, now.hemOf(i, y));
        }
        return h;
    }

    private static long mixedShelf(long h, Shelf shelf) {
        for (int k = 0; k < shelf.sizes.length; k++) {
            int size = shelf.sizeOf(k);
            h = mixed(h, size);
            for (int i = 0; i < size; i++) {
                h = mixed(h, shelf.cell(k, i));
            }
        }
        return h;
    }

    /** ROWS or TEXTS: numbered items, each missing or so many cells long. */
    private static final class Shelf {
        private final int[] sizes;
        private final int[][] cells;

        Shelf(int[] sizes, int[][] cells) {
            this.sizes = sizes;
            this.cells = cells;
            Arrays.fill(sizes, MISSING);
        }

        boolean isNumber(int k) {
            return k >= 0 && k < sizes.length && k < cells.length;
        }

        int sizeOf(int k) {
            return isNumber(k) ? sizes[k] : MISSING;
        }

        int[] cellsOf(int k) {
            return isNumber(k) ? cells[k] : null;
        }

        boolean isThere(int k) {
            return sizeOf(k) != MISSING;
        }

        boolean isCell(int k, int i) {
            return i >= 0 && i < sizeOf(k);
        }

        boolean hasStretch(int k, int i, int n) {
            return i >= 0 && i <= sizeOf(k) && n >= 0 && n <= sizeOf(k) - i;
        }

        int cell(int k, int i) {
            return isCell(k, i) ? item(cellsOf(k), i) : 0;
        }

        void setCell(int k, int i, int v) {
            if (isCell(k, i)) {
                setItem(cellsOf(k), i, v);
            }
        }

        void make(int k, int n, int v) {
            int[] made = cellsOf(k);
            if (made != null && n >= 0 && n <= made.length) {
                setItem(sizes, k, n);
                Arrays.fill(made, v);
            }
        }

        void remove(int k) {
            setItem(sizes, k, MISSING);
        }

        void copyCells(int k, int i, int to, int j, int n) {
            if (hasStretch(k, i, n) && hasStretch(to, j, n)) {
                copyStretch(cellsOf(k), i, cellsOf(to), j, n);
            }
        }

        int howMany() {
            int many = 0;
            for (int k = 0; k < sizes.length; k++) {
                if (isThere(k)) {
                    many++;
                }
            }
            return many;
        }
    }

    /** What the KINDS of WOMEN differ in. */
    private static final class Kinds {
        private static final int KNEE = 2;

        static int byLetter(int letter) {
            switch (letter) {
                case 'w': return WOMAN;
                case 'b': return BRIDE;
                case 'l': return LIAR;
                case 'v': return WIDOW;
                case 'g': return GIRL;
                case 'a': return AUNT;
                default: return NONE;
            }
        }

        static boolean isOf(int kind, int wanted) {
            switch (wanted) {
                case WOMAN: return true;
                case BRIDE: return kind == BRIDE || kind == GIRL;
                case LIAR: return kind == LIAR || kind == AUNT;
                default: return kind == wanted;
            }
        }

        static int hemBy(int kind, int wet, int tall, int tuck, int year) {
            int plain = Math.min(wet, tall);
            switch (kind) {
                case BRIDE: return Math.max(KNEE, plain);
                case GIRL: return Math.max(KNEE, plain) + 1;
                case LIAR: return Math.max(0, plain - tuck);
                case AUNT: return (year & 1) == 0 ? plain : Math.max(0, plain - tuck);
                case WIDOW: return Math.min(plain, tall / 2);
                default: return plain;
            }
        }

        /** Of one HEM that is so much more than a WOMAN's. */
        static int markOf(int kind, int more) {
            switch (kind) {
                case BRIDE: return more >= 2 ? 1 : 0;
                case LIAR: return -more;
                case WIDOW: return more < 0 ? 1 : 0;
                case GIRL: return more;
                default: return 0;
            }
        }
    }

    /** WOMEN, PLACES, what was done, and what there was in each YEAR: all that is kept. */
    private static final class Delta {
        private int women;
        private int earth;
        private int years;
        private int deeds;
        private final int[] ground = new int[PLACES];
        private final int[] kindOf = new int[MOST_WOMEN];
        private final int[] placeOf = new int[MOST_WOMEN];
        private final int[] tallOf = new int[MOST_WOMEN];
        private final int[] tuckOf = new int[MOST_WOMEN];
        private final int[] heightOf = new int[MOST_YEARS];
        // A HEM is told anew from these, so that other HEIGHTS, KINDS can be tried on it.
        private final int[] groundThen = new int[MOST_YEARS * MOST_WOMEN];
        private final int[] tuckThen = new int[MOST_YEARS * MOST_WOMEN];
        private final int[] deedDone = new int[MOST_DEEDS];
        private final int[] deedTo = new int[MOST_DEEDS];
        private final int[] deedWas = new int[MOST_DEEDS];

        void clear() {
            women = 0;
            earth = 0;
            years = 0;
            deeds = 0;
            Arrays.fill(ground, 0);
        }

        void takeFrom(Delta other) {
            if (other == null) {
                return;
            }
            women = other.women;
            earth = other.earth;
            years = other.years;
            deeds = other.deeds;
            copyItems(other.ground, ground);
            copyItems(other.kindOf, kindOf);
            copyItems(other.placeOf, placeOf);
            copyItems(other.tallOf, tallOf);
            copyItems(other.tuckOf, tuckOf);
            copyItems(other.heightOf, heightOf);
            copyItems(other.groundThen, groundThen);
            copyItems(other.tuckThen, tuckThen);
            copyItems(other.deedDone, deedDone);
            copyItems(other.deedTo, deedTo);
            copyItems(other.deedWas, deedWas);
        }

        void addWoman(int kind, int place, int tall, int tuck) {
            setItem(kindOf, women, kind);
            setItem(placeOf, women, place);
            setItem(tallOf, women, tall);
            setItem(tuckOf, women, tuck);
            women++;
        }

        int everyone() {
            return (1 << women) - 1;
        }

        int groundUnder(int i) {
            return item(ground, item(placeOf, i));
        }

        int wetOf(int i, int f) {
            return Math.max(0, f - groundUnder(i));
        }

        int howManyWet(int f) {
            int many = 0;
            for (int i = 0; i < women; i++) {
                if (wetOf(i, f) > 0) {
                    many++;
                }
            }
            return many;
        }

        int wetTogether(int f) {
            int sum = 0;
            for (int i = 0; i < women; i++) {
                sum += wetOf(i, f);
            }
            return sum;
        }

        int howManyOf(int kind) {
            int many = 0;
            for (int i = 0; i < women; i++) {
                if (Kinds.isOf(item(kindOf, i), kind)) {
                    many++;
                }
            }
            return many;
        }

        int lastHeight() {
            return years > 0 ? item(heightOf, years - 1) : 0;
        }

        int room() {
            return PLACES * TOP_GROUND - sumOf(ground, PLACES);
        }

        int hemIfNow(int i, int f, int kind) {
            return Kinds.hemBy(kind, wetOf(i, f), item(tallOf, i), item(tuckOf, i), years);
        }

        int hemIfThen(int i, int y, int f, int kind) {
            int spot = y * MOST_WOMEN + i;
            int wet = Math.max(0, f - item(groundThen, spot));
            return Kinds.hemBy(kind, wet, item(tallOf, i), item(tuckThen, spot), y);
        }

        int hemOf(int i, int y) {
            return hemIfThen(i, y, item(heightOf, y), item(kindOf, i));
        }

        int plainHemOf(int i, int y) {
            return hemIfThen(i, y, item(heightOf, y), WOMAN);
        }

        int greatestHemOf(int i) {
            int greatest = 0;
            for (int y = 0; y < years; y++) {
                greatest = Math.max(greatest, hemOf(i, y));
            }
            return greatest;
        }

        int fittingHeights(int i, int y) {
            int hem = hemOf(i, y);
            int heights = 0;
            for (int f = 0; f <= TOP_HEIGHT; f++) {
                if (hemIfThen(i, y, f, item(kindOf, i)) == hem) {
                    heights |= 1 << f;
                }
            }
            return heights;
        }

        int knownBy(int set, int y) {
            int heights = ALL_HEIGHTS;
            for (int i = 0; i < women; i++) {
                if (hasBit(set, i)) {
                    heights &= fittingHeights(i, y);
                }
            }
            return heights;
        }

        private void note(int what, int to, int was) {
            setItem(deedDone, deeds, what);
            setItem(deedTo, deeds, to);
            setItem(deedWas, deeds, was);
            deeds++;
        }

        void doFlood(int f) {
            note(FLOOD, f, 0);
            setItem(heightOf, years, f);
            for (int i = 0; i < women; i++) {
                setItem(groundThen, years * MOST_WOMEN + i, groundUnder(i));
                setItem(tuckThen, years * MOST_WOMEN + i, item(tuckOf, i));
            }
            years++;
        }

        void doMove(int i, int place) {
            note(MOVE, i, item(placeOf, i));
            setItem(placeOf, i, place);
        }

        void doDyke(int place) {
            note(DYKE, place, item(ground, place));
            setItem(ground, place, item(ground, place) + 1);
            earth--;
        }

        void doTuck(int i) {
            note(TUCK, i, item(tuckOf, i));
            setItem(tuckOf, i, item(tuckOf, i) + 1);
        }

        void undoLast() {
            if (deeds <= 0) {
                return;
            }
            deeds--;
            int to = item(deedTo, deeds);
            int was = item(deedWas, deeds);
            switch (item(deedDone, deeds)) {
                case FLOOD:
                    years--;
                    break;
                case MOVE:
                    setItem(placeOf, to, was);
                    break;
                case DYKE:
                    setItem(ground, to, was);
                    earth++;
                    break;
                default:
                    setItem(tuckOf, to, was);
                    break;
            }
        }
    }

    /** Reads a DELTA from a TEXT into a draft; where it stops is the FAULT. */
    private static final class Reader {
        private final Delta draft = new Delta();
        private int[] text;
        private int size;
        private int spot;

        int read(int[] cells, int many) {
            text = cells;
            size = many;
            spot = 0;
            draft.clear();
            skipBlanks();
            if (!readLand()) {
                return spot;
            }
            skipBlanks();
            for (int i = 0; i < MOST_WOMEN && spot < size; i++) {
                if (!readWoman()) {
                    return spot;
                }
                skipBlanks();
            }
            return spot >= size && draft.women > 0 ? NONE : spot;
        }

        // A blank behind the end: it is none of the signs that an item may go on with.
        private int sign() {
            return spot < size ? item(text, spot) : BLANK;
        }

        private void skipBlanks() {
            for (int k = 0; k < MOST_BYTES && spot < size && sign() == BLANK; k++) {
                spot++;
            }
        }

        private boolean readLand() {
            if (sign() != 'd') {
                return false;
            }
            spot++;
            for (int p = 0; p < PLACES; p++) {
                int figure = readFigure(0, 9);
                if (figure == NONE) {
                    return false;
                }
                setItem(draft.ground, p, figure);
            }
            int figure = readFigure(0, 9);
            if (figure == NONE) {
                return false;
            }
            draft.earth = figure;
            return true;
        }

        private boolean readWoman() {
            int kind = Kinds.byLetter(sign());
            if (kind == NONE) {
                return false;
            }
            spot++;
            int place = readFigure(0, PLACES - 1);
            int tall = place == NONE ? NONE : readFigure(1, 9);
            int tuck = tall == NONE ? NONE : readFigure(0, TOP_TUCK);
            if (tuck == NONE) {
                return false;
            }
            draft.addWoman(kind, place, tall, tuck);
            return true;
        }

        private int readFigure(int from, int to) {
            int figure = sign() - '0';
            if (figure < from || figure > to) {
                return NONE;
            }
            spot++;
            return figure;
        }
    }

    /** Dykes that are only thought of: on GROUND of its own, by how many live at each PLACE. */
    private static final class Dykes {
        private static final int NO_WAY = 1000000;

        private final int[] ground = new int[PLACES];
        private final int[] folk = new int[PLACES];
        // By PLACE * (MOST_DYKES + 1) + dykes that are left: the least WET of it and the PLACES behind it.
        private final int[] leastFrom = new int[(PLACES + 1) * (MOST_DYKES + 1)];

        void take(Delta delta) {
            Arrays.fill(folk, 0);
            copyItems(delta.ground, ground);
            for (int i = 0; i < delta.women; i++) {
                int place = item(delta.placeOf, i);
                setItem(folk, place, item(folk, place) + 1);
            }
        }

        int leastWet(int n, int f) {
            for (int left = 0; left <= MOST_DYKES; left++) {
                setLeast(PLACES, left, left == 0 ? 0 : NO_WAY);
            }
            for (int p = PLACES - 1; p >= 0; p--) {
                for (int left = 0; left <= n; left++) {
                    setLeast(p, left, leastBy(p, left, f));
                }
            }
            return leastOf(0, n);
        }

        /** Behind leastWet() of the same flood: as few dykes at a PLACE as the least WET allows. */
        int fewestAt(int p, int left, int f) {
            for (int raised = 0; raised <= left; raised++) {
                if (wayOf(p, left, raised, f) == leastOf(p, left)) {
                    return raised;
                }
            }
            return 0;
        }

        private int leastBy(int p, int left, int f) {
            int least = NO_WAY;
            for (int raised = 0; raised <= left; raised++) {
                least = Math.min(least, wayOf(p, left, raised, f));
            }
            return least;
        }

        private int wayOf(int p, int left, int raised, int f) {
            int height = item(ground, p) + raised;
            if (height > TOP_GROUND) {
                return NO_WAY;
            }
            return Math.min(NO_WAY, item(folk, p) * Math.max(0, f - height) + leastOf(p + 1, left - raised));
        }

        private int leastOf(int p, int left) {
            return item(leastFrom, p * (MOST_DYKES + 1) + left);
        }

        private void setLeast(int p, int left, int v) {
            setItem(leastFrom, p * (MOST_DYKES + 1) + left, v);
        }

        /** How much more WET the second bank is by a flood, both playing best; the GROUND is in the end as it was. */
        private static int playedOut(int turn, int turns, int f, int[] ground, int[] folk) {
            if (turn >= turns || turn >= MOST_DYKES) {
                return leadOfFirst(Math.min(f, TOP_HEIGHT), ground, folk);
            }
            boolean first = turn % 2 == 0;
            int from = first ? 0 : BANK_PLACES;
            int best = playedOut(turn + 1, turns, f, ground, folk);
            for (int p = from; p < from + BANK_PLACES; p++) {
                int was = item(ground, p);
                if (was < TOP_GROUND) {
                    setItem(ground, p, was + 1);
                    int lead = playedOut(turn + 1, turns, f + 1, ground, folk);
                    setItem(ground, p, was);
                    best = first ? Math.max(best, lead) : Math.min(best, lead);
                }
            }
            return best;
        }

        private static int leadOfFirst(int f, int[] ground, int[] folk) {
            int lead = 0;
            for (int p = 0; p < PLACES; p++) {
                int wet = item(folk, p) * Math.max(0, f - item(ground, p));
                lead += p < BANK_PLACES ? -wet : wet;
            }
            return lead;
        }
    }
}
