import java.util.Random;

/** Runs of 512 calls by chance, each answer and what can be seen held against the plain Model. */
public final class ModelTest {
    private static final Check check = new Check();
    private static final int RUNS = 3000, CALLS = 512, MOST_CALLS_OF_ONE_TURN = 100;
    private static final String LETTERS = "wblvga";

    private final HemLine object = new HemLine();
    private final Model m = new Model();
    private int used;
    private Random chance;

    public static void main(String[] args) {
        int runs = args.length > 0 ? Integer.parseInt(args[0]) : RUNS;
        for (int seed = 0; seed < runs; seed++) {
            new ModelTest().run(seed);
        }
        check.end();
    }

    private void run(int seed) {
        chance = new Random(seed);
        int written = 0;
        for (int k = 0; used < CALLS - MOST_CALLS_OF_ONE_TURN; k++) {
            if (seed % 8 != 0 && (k == 0 || written < 3 && chance.nextInt(40) == 0)) {
                written++;
                writeDelta(seed);
            }
            String call = "run " + seed + " turn " + k + ": ";
            one(call, seed % 4 == 1 ? 8 : 1);
            told(call);
        }
        seen("run " + seed + " in the end: ");
        while (used < CALLS - 1) {
            single("run " + seed + " call " + (used + 1) + ": ");
        }
        check.due("run " + seed + " call 512: digest()", x().digest(), m.digest());
        check.due("calls of run " + seed, used, CALLS);
    }

    private void told(String call) {
        switch (chance.nextInt(4)) {
            case 0: check.due(call + "asked()", x().asked(), m.asked); break;
            case 1: check.due(call + "finding()", x().finding(), m.finding); break;
            default: check.due(call + "digest()", x().digest(), m.digest()); break;
        }
    }

    /** One call of the object and no more. */
    private void single(String call) {
        int i = number(0, m.first.women.size() - 1), f = number(0, 20), p = number(0, 5), n = number(0, 40);
        switch (chance.nextInt(12)) {
            case 0: check.due(call + "would", x().would(i, f), m.would(i, f)); break;
            case 1: check.due(call + "woman", x().woman(i, p), m.woman(i, p)); break;
            case 2: check.due(call + "asked", x().asked(), m.asked); break;
            case 3: check.due(call + "flood", x().flood(f), m.flood(f)); break;
            case 4: check.due(call + "move", x().move(i, p), m.move(i, p)); break;
            case 5: check.due(call + "undo", x().undo(n), m.undo(n)); break;
            case 6: check.due(call + "row", x().row(p, n), m.row(p, n)); break;
            case 7: check.due(call + "count", x().count(p), m.count(p)); break;
            case 8: check.due(call + "finding", x().finding(), m.finding); break;
            case 9: check.due(call + "findings", x().findings(p), m.findings(p)); break;
            case 10: check.due(call + "least", x().least(i, f, p), m.least(i, f, p)); break;
            default: check.due(call + "dry", x().dry(), m.dry()); break;
        }
    }

    /** Each use of it is a call. */
    private HemLine x() {
        used++;
        return object;
    }

    private void parts(String call) {
        check.due(call + "upper()", x().upper(), m.upper);
        check.due(call + "lower()", x().lower(), m.lower);
    }

    private void seen(String call) {
        parts(call);
        for (int f = 1; f <= 5; f++) {
            check.due(call + "findings()", x().findings(f), m.findings[f]);
        }
    }

    /** A number from one to another one; at times just beyond, or far off. */
    private int number(int from, int to) {
        int kind = chance.nextInt(40);
        if (kind == 0) {
            return from - 1;
        }
        if (kind == 1) {
            return to + 1;
        }
        if (kind == 2) {
            return new int[] {Integer.MIN_VALUE, Integer.MAX_VALUE, -1, 0, 99}[chance.nextInt(5)];
        }
        return to < from ? from : from + chance.nextInt(to - from + 1);
    }

    private int figure(int from, int to) {
        return '0' + from + chance.nextInt(to - from + 1);
    }

    private void writeDelta(int seed) {
        StringBuilder s = new StringBuilder();
        blanks(s);
        s.append('d');
        for (int p = 0; p < 7; p++) {
            s.append((char) (seed % 3 == 0 ? figure(5, 9) : figure(0, 9)));
        }
        int women = 1 + chance.nextInt(6);
        for (int i = 0; i < women; i++) {
            blanks(s);
            s.append(LETTERS.charAt(chance.nextInt(6)));
            s.append((char) figure(0, 5)).append((char) figure(1, 9)).append((char) figure(0, 3));
        }
        blanks(s);
        int t = chance.nextInt(4);
        int size = Math.min(60, s.length());
        check.due("text", x().text(t, size), m.text(t, size));
        for (int i = 0; i < size; i++) {
            check.due("put", x().put(t, i, s.charAt(i)), m.put(t, i, s.charAt(i)));
        }
        if (chance.nextInt(6) == 0) {
            int i = chance.nextInt(size), v = "d wblvga0123456789x".charAt(chance.nextInt(19));
            check.due("put", x().put(t, i, v), m.put(t, i, v));
        }
        check.due("fault(" + s + ")", x().fault(t), m.fault(t));
        check.due("delta(" + s + ")", x().delta(t), m.delta(t));
    }

    private void blanks(StringBuilder s) {
        for (int k = chance.nextInt(8) - 5; k > 0; k--) {
            s.append(' ');
        }
    }

    /** How seldom DEEDS are undone: there are runs that come to 40 of them. */
    private void one(String call, int seldom) {
        int kind = chance.nextInt(46);
        if (kind == 21 && chance.nextInt(seldom) != 0) {
            kind = 24;
        }
        if (kind < 12) {
            rowsTexts(call, kind);
        } else if (kind < 26) {
            deeds(call, kind);
        } else {
            questions(call, kind);
        }
    }

    private void rowsTexts(String call, int kind) {
        int a = number(0, 5), b = number(0, 8), c = number(0, 5), d = number(0, 40), e = number(0, 5);
        switch (kind) {
            case 0: check.due(call + "row", x().row(a, b), m.row(a, b)); break;
            case 1: check.due(call + "row", x().row(a, d), m.row(a, d)); break;
            case 2: check.due(call + "lay", x().lay(a, b, e), m.lay(a, b, e, true)); break;
            case 3: e = chance.nextInt(); check.due(call + "lay", x().lay(a, b, e), m.lay(a, b, e, true)); break;
            case 4: check.due(call + "at", x().at(a, b), m.lay(a, b, 0, false)); break;
            case 5: check.due(call + "tear", x().tear(a), m.tear(a)); break;
            case 6: copy(call, a, c); break;
            case 7: check.due(call + "mean", x().mean(a), m.mean(a)); break;
            case 8: a = number(0, 3); b = number(0, 60); check.due(call + "text", x().text(a, b), m.text(a, b)); break;
            case 9: a = number(0, 3); check.due(call + "put", x().put(a, b, e), m.put(a, b, e)); break;
            case 10: a = number(0, 3); check.due(call + "fault", x().fault(a), m.fault(a)); break;
            default: pairs(call); break;
        }
    }

    private void copy(String call, int a, int c) {
        int n = number(0, 6), i = number(0, 4), j = number(0, 4);
        check.due(call + "row", x().row(a, n), m.row(a, n));
        for (int k = 0; k < Math.min(n, 3); k++) {
            check.due(call + "lay", x().lay(a, k, k + 7), m.lay(a, k, k + 7, true));
        }
        n = number(0, 4);
        check.due(call + "copy", x().copy(a, i, c, j, n), m.copy(a, i, c, j, n));
        check.due(call + "copy", x().copy(a, 0, a, j, n), m.copy(a, 0, a, j, n));
    }

    /** A ROW of pairs that one of the KINDS may well have. */
    private void pairs(String call) {
        int r = number(0, 5), many = 1 + chance.nextInt(2);
        check.due(call + "row", x().row(r, 2 * many), m.row(r, 2 * many));
        for (int k = 0; k < many; k++) {
            int f = number(0, 20), v = chance.nextBoolean() ? number(0, 10) : x().would(0, f);
            check.due(call + "lay", x().lay(r, 2 * k, f), m.lay(r, 2 * k, f, true));
            check.due(call + "lay", x().lay(r, 2 * k + 1, v), m.lay(r, 2 * k + 1, v, true));
        }
        int i = number(0, x().count(0) - 1);
        check.due(call + "kinds", x().kinds(i, r), m.kinds(i, r));
        check.due(call + "test", x().test(i, r), m.test(i, r));
    }

    private void deeds(String call, int kind) {
        int i = number(0, x().count(0) - 1), p = number(0, 5), k = number(0, 2);
        switch (kind) {
            case 12: case 13: case 14: {
                int f = number(0, 20);
                check.due(call + "flood", x().flood(f), m.flood(f));
                break;
            }
            case 15: case 16: check.due(call + "move", x().move(i, p), m.move(i, p)); break;
            case 17: case 18: check.due(call + "dyke", x().dyke(p), m.dyke(p)); break;
            case 19: case 20: check.due(call + "tuck", x().tuck(i), m.tuck(i)); break;
            case 21: {
                int n = chance.nextInt(3) == 0 ? number(0, x().count(2)) : x().count(2) - chance.nextInt(3);
                check.due(call + "undo", x().undo(n), m.undo(n));
                break;
            }
            case 22: check.due(call + "keep", x().keep(k), m.keep(k)); break;
            case 23: {
                int where = m.kept.isEmpty() || chance.nextBoolean() ? k : m.kept.keySet().iterator().next();
                check.due(call + "on", x().on(where), m.on(where));
                break;
            }
            case 24: {
                int n = chance.nextInt(3) == 0 ? number(1, 20) : number(1, 4);
                int seed = chance.nextInt(8) == 0 ? number(1, 2147483646) : 1 + chance.nextInt(2147483646);
                check.due(call + "lots", x().lots(n, seed), m.lots(n, seed));
                break;
            }
            default: {
                int t = number(0, 3);
                if (chance.nextInt(4) == 0) {
                    check.due(call + "delta", x().delta(t), m.delta(t));
                }
            }
        }
    }

    private void questions(String call, int kind) {
        int i = number(0, x().count(0) - 1), y = number(0, x().count(1) - 1), f = number(0, 20), n = number(0, 6);
        int set = number(0, (1 << x().count(0)) - 1), r = number(0, 5), what = number(0, 5), v = number(0, 20);
        switch (kind) {
            case 26: check.due(call + "woman", x().woman(i, what), m.woman(i, what)); break;
            case 27: check.due(call + "mark", x().mark(i, what), m.mark(i, what)); break;
            case 28: check.due(call + "hem", x().hem(i, y), m.hem(i, y)); break;
            case 29: check.due(call + "would", x().would(i, f), m.would(i, f)); break;
            case 30: check.due(call + "know", x().know(set, y), m.know(set, y)); break;
            case 31: check.due(call + "high", x().high(y), m.high(y)); break;
            case 32: check.due(call + "look", x().look(set, y), m.look(set, y)); break;
            case 33: check.due(call + "looks", x().looks(y), m.looks(y)); break;
            case 34: check.due(call + "line", x().line(y), m.line(y)); break;
            case 35: check.due(call + "kinds", x().kinds(i, r), m.kinds(i, r)); break;
            case 36: hemsOfOne(call, r); break;
            case 37: check.due(call + "whose", x().whose(r), m.whose(r)); break;
            case 38:
                if (chance.nextInt(4) == 0) {
                    check.due(call + "raise", x().raise(n, f, r), m.raise(n, f, r));
                }
                break;
            case 39: check.due(call + "dry", x().dry(), m.dry()); break;
            case 40: check.due(call + "least", x().least(i, f, v), m.least(i, f, v)); break;
            case 41:
                if (chance.nextInt(3) == 0) {
                    check.due(call + "duel", x().duel(n, f), m.duel(n, f));
                }
                break;
            case 42: check.due(call + "odds", x().odds(n), m.odds(n)); parts(call); break;
            case 43: check.due(call + "mid", x().mid(), m.mid()); parts(call); break;
            case 44: what = number(0, 10); check.due(call + "count", x().count(what), m.count(what)); break;
            default: check.due(call + "findings", x().findings(n), m.findings(n)); break;
        }
    }

    /** A ROW that begins as the HEMS of one of them, perhaps not to the end. */
    private void hemsOfOne(String call, int r) {
        int years = x().count(1), women = x().count(0);
        if (women == 0) {
            return;
        }
        int i = chance.nextInt(women), size = chance.nextBoolean() ? years : chance.nextInt(years + 1);
        check.due(call + "row", x().row(r, size), m.row(r, size));
        for (int y = 0; y < size; y++) {
            int v = x().hem(i, y) + (chance.nextInt(12) == 0 ? 1 : 0);
            check.due(call + "lay", x().lay(r, y, v), m.lay(r, y, v, true));
        }
        check.due(call + "whose", x().whose(r), m.whose(r));
    }
}
