import java.util.ArrayList;
import java.util.HashMap;
import java.util.List;
import java.util.Map;
import java.util.TreeMap;

/** The document once more, in the plainest way: each answer from the DEEDS, done over from the first one. */
final class Model {
    static final int BAD = -1, FULL = -2, FINDING = -3, STATE = -4, SPENT = -6, NONE = -9;
    private static final String LETTERS = "wblvga";

    /** A DELTA by DEEDS: as it was read, and what was done since. */
    static final class Land {
        int[] ground = new int[6];
        int earth;
        List<int[]> women = new ArrayList<>(); // kind, place, tall, tuck
        List<int[]> years = new ArrayList<>(); // height, then ground and tuck of each
        void done(int[] deed) {
            switch (deed[0]) {
                case 'f': {
                    int[] year = new int[13];
                    year[0] = deed[1];
                    for (int i = 0; i < women.size(); i++) {
                        year[1 + 2 * i] = ground[women.get(i)[1]];
                        year[2 + 2 * i] = women.get(i)[3];
                    }
                    years.add(year);
                    break;
                }
                case 'm': women.get(deed[1])[1] = deed[2]; break;
                case 'd': ground[deed[1]]++; earth--; break;
                default: women.get(deed[1])[3]++; break;
            }
        }
        Land copy() {
            Land l = new Land();
            l.ground = ground.clone();
            l.earth = earth;
            for (int[] w : women) {
                l.women.add(w.clone());
            }
            return l;
        }
        int wet(int i, int f) {
            return Math.max(f - ground[women.get(i)[1]], 0);
        }
    }

    final Map<Integer, int[]> rows = new TreeMap<>();
    final Map<Integer, byte[]> texts = new TreeMap<>();
    final Map<Integer, List<int[]>> kept = new HashMap<>();
    Land first = new Land();
    List<int[]> deeds = new ArrayList<>();
    int asked, finding;
    long upper, lower = 1;
    final int[] findings = new int[6];

    Land land() {
        Land l = first.copy();
        for (int[] d : deeds) {
            l.done(d);
        }
        return l;
    }

    int found(int f) {
        finding = f;
        findings[f]++;
        return FINDING;
    }

    static boolean in(int v, int from, int to) {
        return from <= v && v <= to;
    }

    static int hemOf(int kind, int wet, int tall, int tuck, int year) {
        int woman = wet > tall ? tall : wet;
        if (kind == 1 || kind == 4) {
            int bride = woman < 2 ? 2 : woman;
            return kind == 4 ? bride + 1 : bride;
        }
        if (kind == 2 || kind == 5 && year % 2 == 1) {
            return woman > tuck ? woman - tuck : 0;
        }
        return kind == 3 && woman > tall / 2 ? tall / 2 : woman;
    }

    static int hemThen(Land l, int i, int y, int f, int kind) {
        int[] year = l.years.get(y);
        return hemOf(kind, Math.max(0, f - year[1 + 2 * i]), l.women.get(i)[2], year[2 + 2 * i], y);
    }

    static int hem(Land l, int i, int y) {
        return hemThen(l, i, y, l.years.get(y)[0], l.women.get(i)[0]);
    }

    static int hemNow(Land l, int i, int f, int kind) {
        int[] w = l.women.get(i);
        return hemOf(kind, l.wet(i, f), w[2], w[3], l.years.size());
    }

    boolean isWoman(int i) {
        return in(i, 0, first.women.size() - 1);
    }

    boolean nobody() {
        return first.women.isEmpty();
    }

    int row(int r, int n) {
        if (!in(r, 0, 5) || n > 40) {
            return BAD;
        }
        if (n < 0) {
            return found(5);
        }
        rows.put(r, new int[n]);
        return n;
    }

    int lay(int r, int i, int v, boolean laid) {
        if (!in(r, 0, 5)) {
            return BAD;
        }
        if (!rows.containsKey(r)) {
            return found(1);
        }
        if (!in(i, 0, rows.get(r).length - 1)) {
            return found(2);
        }
        asked = rows.get(r)[i];
        if (laid) {
            rows.get(r)[i] = v;
        }
        return 1;
    }

    int tear(int r) {
        if (!in(r, 0, 5)) {
            return BAD;
        }
        return rows.remove(r) == null ? found(1) : 1;
    }

    int copy(int r, int i, int to, int j, int n) {
        if (!in(r, 0, 5) || !in(to, 0, 5)) {
            return BAD;
        }
        if (n < 0) {
            return found(5);
        }
        if (!rows.containsKey(r) || !rows.containsKey(to)) {
            return found(1);
        }
        int[] a = rows.get(r).clone(), b = rows.get(to);
        if (i < 0 || j < 0 || (long) i + n > a.length || (long) j + n > b.length) {
            return found(2);
        }
        for (int k = 0; k < n; k++) {
            b[j + k] = a[i + k];
        }
        return 1;
    }

    int mean(int r) {
        if (!in(r, 0, 5)) {
            return BAD;
        }
        if (!rows.containsKey(r)) {
            return found(1);
        }
        int[] a = rows.get(r);
        if (a.length == 0) {
            return found(4);
        }
        java.math.BigInteger sum = java.math.BigInteger.ZERO;
        for (int v : a) {
            sum = sum.add(java.math.BigInteger.valueOf(v));
        }
        asked = sum.divide(java.math.BigInteger.valueOf(a.length)).intValueExact();
        return 1;
    }

    int text(int t, int n) {
        if (!in(t, 0, 3) || n > 60) {
            return BAD;
        }
        if (n < 0) {
            return found(5);
        }
        byte[] b = new byte[n];
        java.util.Arrays.fill(b, (byte) 32);
        texts.put(t, b);
        return n;
    }

    int put(int t, int i, int v) {
        if (!in(t, 0, 3)) {
            return BAD;
        }
        if (!texts.containsKey(t)) {
            return found(1);
        }
        byte[] b = texts.get(t);
        if (!in(i, 0, b.length - 1)) {
            return found(2);
        }
        int was = b[i];
        b[i] = (byte) v;
        return 1000 + was;
    }

    /** The longest beginning that some DELTA begins with is found by trying each. */
    int fault(int t) {
        if (!in(t, 0, 3)) {
            return BAD;
        }
        if (!texts.containsKey(t)) {
            return found(1);
        }
        return faultOf(texts.get(t));
    }

    private static final java.util.regex.Pattern WHOLE =
        java.util.regex.Pattern.compile(" *d[0-9]{7}( *[wblvga][0-5][1-9][0-3]){1,6} *");

    static int faultOf(byte[] b) {
        StringBuilder s = new StringBuilder();
        for (byte v : b) {
            s.append((char) (v & 255));
        }
        if (WHOLE.matcher(s).matches()) {
            return NONE;
        }
        for (int k = 0; k < b.length; k++) {
            java.util.regex.Matcher m = WHOLE.matcher(s.substring(0, k + 1));
            if (!m.matches() && !m.hitEnd()) {
                return k;
            }
        }
        return b.length;
    }

    int delta(int t) {
        if (!in(t, 0, 3)) {
            return BAD;
        }
        if (!texts.containsKey(t)) {
            return found(1);
        }
        byte[] b = texts.get(t);
        if (faultOf(b) != NONE) {
            return STATE;
        }
        String s = new String(b, java.nio.charset.StandardCharsets.ISO_8859_1).replace(" ", "");
        first = new Land();
        for (int p = 0; p < 6; p++) {
            first.ground[p] = s.charAt(1 + p) - '0';
        }
        first.earth = s.charAt(7) - '0';
        for (int k = 8; k < s.length(); k += 4) {
            first.women.add(new int[] {LETTERS.indexOf(s.charAt(k)), s.charAt(k + 1) - '0', s.charAt(k + 2) - '0',
                s.charAt(k + 3) - '0'});
        }
        deeds = new ArrayList<>();
        kept.clear();
        return first.women.size();
    }

    int fact(Land l, int i, int what) {
        if (what == 4) {
            return l.years.size();
        }
        if (what == 5) {
            int most = 0;
            for (int y = 0; y < l.years.size(); y++) {
                most = Math.max(most, hem(l, i, y));
            }
            return most;
        }
        return l.women.get(i)[what];
    }

    int woman(int i, int what) {
        if (!isWoman(i) || !in(what, 0, 5)) {
            return BAD;
        }
        asked = fact(land(), i, what);
        return 1;
    }

    static boolean is(int kind, int of) {
        return kind == of || kind == 4 && of == 1 || kind == 5 && of == 2;
    }

    int mark(int i, int kind) {
        if (!isWoman(i) || !in(kind, 1, 5)) {
            return BAD;
        }
        Land l = land();
        if (!is(l.women.get(i)[0], kind)) {
            return found(3);
        }
        int more2 = 0, less = 0, together = 0;
        for (int y = 0; y < l.years.size(); y++) {
            int d = hem(l, i, y) - hemThen(l, i, y, l.years.get(y)[0], 0);
            more2 += d >= 2 ? 1 : 0;
            less += d < 0 ? 1 : 0;
            together += d;
        }
        return kind == 1 ? more2 : kind == 2 ? -together : kind == 3 ? less : kind == 4 ? together : l.years.size() % 2;
    }

    int hem(int i, int y) {
        Land l = land();
        return isWoman(i) && in(y, 0, l.years.size() - 1) ? hem(l, i, y) : BAD;
    }

    int would(int i, int f) {
        return isWoman(i) && in(f, 0, 20) ? hemNow(land(), i, f, first.women.get(i)[0]) : BAD;
    }

    int flood(int f) {
        if (!in(f, 0, 20)) {
            return BAD;
        }
        Land l = land();
        if (nobody() || l.years.size() == 8) {
            return STATE;
        }
        if (deeds.size() == 40) {
            return FULL;
        }
        deeds.add(new int[] {'f', f});
        return wetMany(l, f);
    }

    static int wetMany(Land l, int f) {
        int many = 0;
        for (int i = 0; i < l.women.size(); i++) {
            many += l.wet(i, f) > 0 ? 1 : 0;
        }
        return many;
    }

    int move(int i, int p) {
        if (!isWoman(i) || !in(p, 0, 5)) {
            return BAD;
        }
        int was = land().women.get(i)[1];
        if (was == p) {
            return STATE;
        }
        if (deeds.size() == 40) {
            return FULL;
        }
        deeds.add(new int[] {'m', i, p});
        return was;
    }

    int dyke(int p) {
        if (!in(p, 0, 5)) {
            return BAD;
        }
        Land l = land();
        if (nobody() || l.ground[p] == 9) {
            return STATE;
        }
        if (l.earth == 0) {
            return SPENT;
        }
        if (deeds.size() == 40) {
            return FULL;
        }
        deeds.add(new int[] {'d', p});
        return l.ground[p] + 1;
    }

    int tuck(int i) {
        if (!isWoman(i)) {
            return BAD;
        }
        int was = land().women.get(i)[3];
        if (was == 3) {
            return STATE;
        }
        if (deeds.size() == 40) {
            return FULL;
        }
        deeds.add(new int[] {'t', i});
        return was + 1;
    }

    int undo(int n) {
        if (!in(n, 0, deeds.size())) {
            return BAD;
        }
        int many = deeds.size() - n;
        deeds = new ArrayList<>(deeds.subList(0, n));
        return many;
    }

    int keep(int k) {
        if (!in(k, 0, 2)) {
            return BAD;
        }
        if (nobody()) {
            return STATE;
        }
        kept.put(k, new ArrayList<>(deeds));
        return deeds.size();
    }

    int on(int k) {
        if (!in(k, 0, 2)) {
            return BAD;
        }
        if (!kept.containsKey(k)) {
            return found(1);
        }
        deeds = new ArrayList<>(kept.get(k));
        return deeds.size();
    }

    boolean isPast(int y) {
        return in(y, 0, land().years.size() - 1);
    }

    static int knowOf(Land l, int set, int y) {
        int heights = 0;
        for (int f = 0; f <= 20; f++) {
            boolean fits = true;
            for (int i = 0; i < l.women.size(); i++) {
                fits &= (set & 1 << i) == 0 || hemThen(l, i, y, f, l.women.get(i)[0]) == hem(l, i, y);
            }
            heights |= fits ? 1 << f : 0;
        }
        return heights;
    }

    boolean badSet(int set) {
        return !in(set, 0, (1 << first.women.size()) - 1);
    }

    int know(int set, int y) {
        if (badSet(set) || !isPast(y)) {
            return BAD;
        }
        int heights = knowOf(land(), set, y);
        asked = Integer.bitCount(heights);
        return heights;
    }

    int high(int y) {
        if (!isPast(y)) {
            return BAD;
        }
        int heights = knowOf(land(), (1 << first.women.size()) - 1, y);
        for (int f = 0; f <= 20; f++) {
            if (heights == 1 << f) {
                return f;
            }
        }
        return NONE;
    }

    static int most(List<Integer> values) {
        int most = 0;
        for (int v : values) {
            int many = 0;
            for (int w : values) {
                many += v == w ? 1 : 0;
            }
            most = Math.max(most, many);
        }
        return most;
    }

    int look(int set, int y) {
        if (badSet(set) || !isPast(y)) {
            return BAD;
        }
        Land l = land();
        int heights = knowOf(l, set, y), best = NONE, part = 99;
        for (int i = l.women.size() - 1; i >= 0; i--) {
            if ((set & 1 << i) != 0) {
                continue;
            }
            List<Integer> hems = new ArrayList<>();
            for (int f = 0; f <= 20; f++) {
                if ((heights & 1 << f) != 0) {
                    hems.add(hemThen(l, i, y, f, l.women.get(i)[0]));
                }
            }
            if (most(hems) <= part) {
                part = most(hems);
                best = i;
            }
        }
        asked = best == NONE ? asked : part;
        return best;
    }

    int looks(int y) {
        if (!isPast(y)) {
            return BAD;
        }
        Land l = land();
        int all = (1 << l.women.size()) - 1;
        for (int n = 0; n <= l.women.size(); n++) {
            for (int set = 0; set <= all; set++) {
                if (Integer.bitCount(set) == n && knowOf(l, set, y) == knowOf(l, all, y)) {
                    asked = set;
                    return n;
                }
            }
        }
        throw new IllegalStateException();
    }

    int line(int y) {
        if (!isPast(y)) {
            return BAD;
        }
        Land l = land();
        List<Integer> who = new ArrayList<>();
        int changes = 0;
        for (int i = 0; i < l.women.size(); i++) {
            int at = who.size();
            while (at > 0 && hem(l, who.get(at - 1), y) > hem(l, i, y)) {
                at--;
                changes++;
            }
            who.add(at, i);
        }
        asked = who.get(0);
        return changes;
    }

    int pairsRefused(int i, int r) {
        if (!isWoman(i) || !in(r, 0, 5)) {
            return BAD;
        }
        if (!rows.containsKey(r)) {
            return found(1);
        }
        int[] a = rows.get(r);
        if (a.length % 2 != 0) {
            return found(5);
        }
        for (int k = 0; k < a.length; k++) {
            if (!in(a[k], 0, k % 2 == 0 ? 20 : 10)) {
                return found(3);
            }
        }
        return 0;
    }

    List<Integer> kindsOf(int i, int r) {
        List<Integer> kinds = new ArrayList<>();
        Land l = land();
        int[] a = rows.get(r);
        for (int kind = 0; kind < 6; kind++) {
            boolean can = true;
            for (int k = 0; k < a.length; k += 2) {
                can &= hemNow(l, i, a[k], kind) == a[k + 1];
            }
            if (can) {
                kinds.add(kind);
            }
        }
        return kinds;
    }

    int kinds(int i, int r) {
        int refused = pairsRefused(i, r);
        if (refused != 0) {
            return refused;
        }
        int set = 0;
        for (int kind : kindsOf(i, r)) {
            set += 1 << kind;
        }
        return set;
    }

    int test(int i, int r) {
        int refused = pairsRefused(i, r);
        if (refused != 0) {
            return refused;
        }
        List<Integer> kinds = kindsOf(i, r);
        if (kinds.isEmpty()) {
            return NONE;
        }
        Land l = land();
        int best = 0, part = 99;
        for (int f = 20; f >= 0; f--) {
            List<Integer> hems = new ArrayList<>();
            for (int kind : kinds) {
                hems.add(hemNow(l, i, f, kind));
            }
            if (most(hems) <= part) {
                part = most(hems);
                best = f;
            }
        }
        asked = part;
        return best;
    }

    int whose(int r) {
        if (!in(r, 0, 5)) {
            return BAD;
        }
        if (nobody()) {
            return STATE;
        }
        if (!rows.containsKey(r)) {
            return found(1);
        }
        Land l = land();
        int[] a = rows.get(r);
        if (a.length > l.years.size()) {
            return found(5);
        }
        int set = 0, just = 0;
        for (int i = 0; i < l.women.size(); i++) {
            List<Integer> hems = new ArrayList<>(), asIn = new ArrayList<>();
            for (int y = 0; y < l.years.size(); y++) {
                hems.add(hem(l, i, y));
            }
            for (int v : a) {
                asIn.add(v);
            }
            set |= hems.subList(0, a.length).equals(asIn) ? 1 << i : 0;
            just |= hems.equals(asIn) ? 1 << i : 0;
        }
        asked = just;
        return set;
    }

    static int wetAll(Land l, int f) {
        int sum = 0;
        for (int i = 0; i < l.women.size(); i++) {
            sum += l.wet(i, f);
        }
        return sum;
    }

    int raise(int n, int f, int r) {
        if (!in(n, 0, 6) || !in(f, 0, 20) || !in(r, 0, 5)) {
            return BAD;
        }
        Land l = land();
        int room = 0;
        for (int g : l.ground) {
            room += 9 - g;
        }
        if (nobody() || room < n) {
            return STATE;
        }
        int least = Integer.MAX_VALUE;
        int[] best = null;
        for (int code = 0; code < 117649; code++) {
            int[] way = new int[6];
            int rest = code, sum = 0;
            boolean can = true;
            for (int p = 5; p >= 0; p--) {
                way[p] = rest % 7;
                rest /= 7;
                sum += way[p];
                can &= l.ground[p] + way[p] <= 9;
            }
            if (sum != n || !can) {
                continue;
            }
            Land raised = l.copy();
            for (int p = 0; p < 6; p++) {
                raised.ground[p] += way[p];
            }
            if (wetAll(raised, f) < least) {
                least = wetAll(raised, f);
                best = way;
            }
        }
        rows.put(r, best);
        return least;
    }

    int dry() {
        if (nobody()) {
            return STATE;
        }
        int f = 20;
        while (wetMany(land(), f) > 0) {
            f--;
        }
        return f;
    }

    int least(int i, int f, int v) {
        if (!isWoman(i) || !in(f, 0, 20) || !in(v, 0, 20)) {
            return BAD;
        }
        Land l = land();
        int p = l.women.get(i)[1];
        for (int n = 0; l.ground[p] <= 9; n++) {
            if (l.wet(i, f) <= v) {
                return n;
            }
            l.ground[p]++;
        }
        return NONE;
    }

    /** By how much more WET the bank whose turn it is is than the other one, at least. */
    private static int lead(Land l, int turn, int left, int f) {
        if (left == 0) {
            int[] wet = new int[2];
            for (int i = 0; i < l.women.size(); i++) {
                wet[l.women.get(i)[1] / 3] += l.wet(i, Math.min(20, f));
            }
            return wet[turn] - wet[1 - turn];
        }
        int best = -lead(l, 1 - turn, left - 1, f);
        for (int p = 3 * turn; p < 3 * turn + 3; p++) {
            if (l.ground[p] < 9) {
                l.ground[p]++;
                best = Math.min(best, -lead(l, 1 - turn, left - 1, f + 1));
                l.ground[p]--;
            }
        }
        return best;
    }

    int duel(int n, int f) {
        if (!in(n, 0, 6) || !in(f, 0, 20)) {
            return BAD;
        }
        if (nobody()) {
            return STATE;
        }
        return 100 - lead(land(), 0, n, f);
    }

    void tell(int up, int low) {
        java.math.BigInteger g = java.math.BigInteger.valueOf(up).gcd(java.math.BigInteger.valueOf(low));
        upper = up / g.intValue();
        lower = low / g.intValue();
    }

    int odds(int v) {
        if (!in(v, 0, 6)) {
            return BAD;
        }
        Land l = land();
        if (nobody() || l.years.isEmpty()) {
            return STATE;
        }
        int times = 0;
        for (int[] year : l.years) {
            times += wetMany(l, year[0]) >= v ? 1 : 0;
        }
        tell(times, l.years.size());
        return 1;
    }

    int mid() {
        Land l = land();
        if (nobody() || l.years.isEmpty()) {
            return STATE;
        }
        int sum = 0;
        for (int[] year : l.years) {
            sum += wetAll(l, year[0]);
        }
        tell(sum, l.years.size());
        return 1;
    }

    int lots(int n, int seed) {
        if (!in(n, 1, 20) || !in(seed, 1, 2147483646)) {
            return BAD;
        }
        if (nobody()) {
            return STATE;
        }
        if (deeds.size() + n > 40) {
            return FULL;
        }
        long x = seed;
        for (int k = 0; k < n; k++) {
            x = 48271 * x % 2147483647;
            boolean flood = x % 4 == 0 && land().years.size() < 8;
            deeds.add(flood ? new int[] {'f', (int) (x / 8 % 21)}
                : new int[] {'m', (int) (x / 8 % first.women.size()), (int) (x / 64 % 6)});
        }
        return land().years.size();
    }

    int count(int what) {
        Land l = land();
        switch (what) {
            case 0: return l.women.size();
            case 1: return l.years.size();
            case 2: return deeds.size();
            case 3: return l.earth;
            case 4: return java.util.Arrays.stream(l.ground).sum();
            case 5: return l.women.stream().mapToInt(w -> w[3]).sum();
            case 6: return l.years.isEmpty() ? 0 : l.years.get(l.years.size() - 1)[0];
            case 7: return (int) l.women.stream().filter(w -> is(w[0], 1)).count();
            case 8: return rows.size();
            case 9: return texts.size();
            case 10: return kept.size();
            default: return BAD;
        }
    }

    int findings(int f) {
        return in(f, 1, 5) ? findings[f] : BAD;
    }

    long digest() {
        List<Integer> all = new ArrayList<>();
        for (int what = 0; what <= 10; what++) {
            all.add(count(what));
        }
        Land l = land();
        for (int g : l.ground) {
            all.add(g);
        }
        for (int i = 0; i < l.women.size(); i++) {
            for (int what = 0; what < 6; what++) {
                all.add(fact(l, i, what));
            }
            for (int y = 0; y < l.years.size(); y++) {
                all.add(hem(l, i, y));
            }
        }
        for (int k = 0; k < 3; k++) {
            all.add(kept.containsKey(k) ? kept.get(k).size() : -1);
        }
        for (int r = 0; r < 6; r++) {
            all.add(rows.containsKey(r) ? rows.get(r).length : -1);
            for (int v : rows.getOrDefault(r, new int[0])) {
                all.add(v);
            }
        }
        for (int t = 0; t < 4; t++) {
            all.add(texts.containsKey(t) ? texts.get(t).length : -1);
            for (int v : texts.getOrDefault(t, new byte[0])) {
                all.add(v);
            }
        }
        long h = 17;
        for (int v : all) {
            h = 31 * h + v;
        }
        return h;
    }
}
