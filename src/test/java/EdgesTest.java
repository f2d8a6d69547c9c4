import java.util.ArrayList;
import java.util.List;

/** Each call with all numbers that are edges anywhere, in several states, held against the plain Model. */
public final class EdgesTest {
    private static final Check check = new Check();
    private static final int LEAST = Integer.MIN_VALUE, MOST = Integer.MAX_VALUE;
    private static final int[] MANY = {LEAST, LEAST + 1, -257, -256, -129, -128, -2, -1, 0, 1, 2, 3, 4, 5, 6, 7, 8, 9, 10,
        11, 19, 20, 21, 39, 40, 41, 42, 59, 60, 61, 62, 63, 64, 65, 127, 128, 255, 256, 65536, MOST - 1, MOST};
    private static final int[] SOME = {LEAST, -1, 0, 1, 2, 3, 5, 6, 7, 9, 10, 20, 21, 40, 41, MOST};
    private static final int[] FEW = {LEAST, -1, 0, 1, 3, 5, 6, MOST};
    private static final int TURNS_OF_ONE = 60;

    interface OfLine {
        int answer(HemLine x, int[] a);
    }

    interface OfModel {
        int answer(Model m, int[] a);
    }

    private record Asked(String name, int numbers, OfLine line, OfModel model) {
    }

    /** The same steps on both. */
    private static final class Pair {
        private final HemLine x = new HemLine();
        private final Model m = new Model();

        void write(int t, String signs) {
            x.text(t, signs.length());
            m.text(t, signs.length());
            for (int i = 0; i < signs.length(); i++) {
                x.put(t, i, signs.charAt(i));
                m.put(t, i, signs.charAt(i));
            }
        }

        void delta(int t) {
            x.delta(t);
            m.delta(t);
        }

        void row(int r, int... values) {
            x.row(r, values.length);
            m.row(r, values.length);
            for (int i = 0; i < values.length; i++) {
                x.lay(r, i, values[i]);
                m.lay(r, i, values[i], true);
            }
        }

        void flood(int f) {
            x.flood(f);
            m.flood(f);
        }

        void keep(int k) {
            x.keep(k);
            m.keep(k);
        }

        void lots(int n, int seed) {
            x.lots(n, seed);
            m.lots(n, seed);
        }
    }

    private static final int STATES = 5;

    private static Pair made(int state) {
        Pair p = new Pair();
        p.row(0, 3, -4, 5);
        p.row(1);
        p.row(2, 0, 2, 20, 6);
        p.write(1, "d01");
        if (state > 0) {
            p.write(0, state == 1 ? "d0000000w061" : "d0159008w061b122l373v490g510a083");
            p.delta(0);
        }
        if (state > 2) {
            p.keep(1);
            p.flood(3);
            p.flood(7);
        }
        if (state > 3) {
            for (int k = 0; k < 6; k++) {
                p.flood(9 - k);
            }
            p.keep(0);
            p.lots(20, 77);
            p.lots(12, 78);
        }
        return p;
    }

    private static final List<Asked> CALLS = List.of(
        new Asked("row", 2, (x, a) -> x.row(a[0], a[1]), (m, a) -> m.row(a[0], a[1])),
        new Asked("lay", 3, (x, a) -> x.lay(a[0], a[1], a[2]), (m, a) -> m.lay(a[0], a[1], a[2], true)),
        new Asked("at", 2, (x, a) -> x.at(a[0], a[1]), (m, a) -> m.lay(a[0], a[1], 0, false)),
        new Asked("tear", 1, (x, a) -> x.tear(a[0]), (m, a) -> m.tear(a[0])),
        new Asked("copy", 5, (x, a) -> x.copy(a[0], a[1], a[2], a[3], a[4]),
            (m, a) -> m.copy(a[0], a[1], a[2], a[3], a[4])),
        new Asked("mean", 1, (x, a) -> x.mean(a[0]), (m, a) -> m.mean(a[0])),
        new Asked("text", 2, (x, a) -> x.text(a[0], a[1]), (m, a) -> m.text(a[0], a[1])),
        new Asked("put", 3, (x, a) -> x.put(a[0], a[1], a[2]), (m, a) -> m.put(a[0], a[1], a[2])),
        new Asked("fault", 1, (x, a) -> x.fault(a[0]), (m, a) -> m.fault(a[0])),
        new Asked("delta", 1, (x, a) -> x.delta(a[0]), (m, a) -> m.delta(a[0])),
        new Asked("woman", 2, (x, a) -> x.woman(a[0], a[1]), (m, a) -> m.woman(a[0], a[1])),
        new Asked("mark", 2, (x, a) -> x.mark(a[0], a[1]), (m, a) -> m.mark(a[0], a[1])),
        new Asked("hem", 2, (x, a) -> x.hem(a[0], a[1]), (m, a) -> m.hem(a[0], a[1])),
        new Asked("would", 2, (x, a) -> x.would(a[0], a[1]), (m, a) -> m.would(a[0], a[1])),
        new Asked("flood", 1, (x, a) -> x.flood(a[0]), (m, a) -> m.flood(a[0])),
        new Asked("move", 2, (x, a) -> x.move(a[0], a[1]), (m, a) -> m.move(a[0], a[1])),
        new Asked("dyke", 1, (x, a) -> x.dyke(a[0]), (m, a) -> m.dyke(a[0])),
        new Asked("tuck", 1, (x, a) -> x.tuck(a[0]), (m, a) -> m.tuck(a[0])),
        new Asked("undo", 1, (x, a) -> x.undo(a[0]), (m, a) -> m.undo(a[0])),
        new Asked("keep", 1, (x, a) -> x.keep(a[0]), (m, a) -> m.keep(a[0])),
        new Asked("on", 1, (x, a) -> x.on(a[0]), (m, a) -> m.on(a[0])),
        new Asked("know", 2, (x, a) -> x.know(a[0], a[1]), (m, a) -> m.know(a[0], a[1])),
        new Asked("high", 1, (x, a) -> x.high(a[0]), (m, a) -> m.high(a[0])),
        new Asked("look", 2, (x, a) -> x.look(a[0], a[1]), (m, a) -> m.look(a[0], a[1])),
        new Asked("looks", 1, (x, a) -> x.looks(a[0]), (m, a) -> m.looks(a[0])),
        new Asked("line", 1, (x, a) -> x.line(a[0]), (m, a) -> m.line(a[0])),
        new Asked("kinds", 2, (x, a) -> x.kinds(a[0], a[1]), (m, a) -> m.kinds(a[0], a[1])),
        new Asked("test", 2, (x, a) -> x.test(a[0], a[1]), (m, a) -> m.test(a[0], a[1])),
        new Asked("whose", 1, (x, a) -> x.whose(a[0]), (m, a) -> m.whose(a[0])),
        new Asked("raise", 3, (x, a) -> x.raise(a[0], a[1], a[2]), (m, a) -> m.raise(a[0], a[1], a[2])),
        new Asked("dry", 0, (x, a) -> x.dry(), (m, a) -> m.dry()),
        new Asked("least", 3, (x, a) -> x.least(a[0], a[1], a[2]), (m, a) -> m.least(a[0], a[1], a[2])),
        new Asked("duel", 2, (x, a) -> x.duel(a[0], a[1]), (m, a) -> m.duel(a[0], a[1])),
        new Asked("odds", 1, (x, a) -> x.odds(a[0]), (m, a) -> m.odds(a[0])),
        new Asked("mid", 0, (x, a) -> x.mid(), (m, a) -> m.mid()),
        new Asked("lots", 2, (x, a) -> x.lots(a[0], a[1]), (m, a) -> m.lots(a[0], a[1])),
        new Asked("count", 1, (x, a) -> x.count(a[0]), (m, a) -> m.count(a[0])),
        new Asked("findings", 1, (x, a) -> x.findings(a[0]), (m, a) -> m.findings(a[0])));

    public static void main(String[] args) {
        for (Asked asked : CALLS) {
            List<int[]> all = new ArrayList<>();
            int[] edges = asked.numbers <= 2 ? MANY : asked.numbers == 3 ? SOME : FEW;
            if (asked.name.equals("raise")) {
                edges = FEW;
            }
            grow(all, new int[asked.numbers], 0, edges);
            for (int state = 0; state < STATES; state++) {
                all(asked, state, all);
            }
        }
        check.end();
    }

    private static void grow(List<int[]> all, int[] numbers, int k, int[] edges) {
        if (k == numbers.length) {
            all.add(numbers.clone());
            return;
        }
        for (int v : edges) {
            numbers[k] = v;
            grow(all, numbers, k + 1, edges);
        }
    }

    /** What is done stays for the next ones, till the pair is made anew. */
    private static void all(Asked asked, int state, List<int[]> all) {
        Pair p = made(state);
        for (int k = 0; k < all.size(); k++) {
            if (k % TURNS_OF_ONE == 0) {
                p = made(state);
            }
            int[] a = all.get(k);
            String call = asked.name + java.util.Arrays.toString(a) + " in state " + state;
            check.due(call, asked.line.answer(p.x, a), asked.model.answer(p.m, a));
            check.due(call + " asked()", p.x.asked(), p.m.asked);
            check.due(call + " finding()", p.x.finding(), p.m.finding);
            check.due(call + " digest()", p.x.digest(), p.m.digest());
        }
    }
}
