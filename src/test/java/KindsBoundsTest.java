/** Boundaries of promises 28 to 30: kinds, test, whose. */
public final class KindsBoundsTest extends Bounds {
    private static final int[] NO_ROWS = {-1, 6, LEAST, MOST};
    private static final String ONE = "d0000000w061";
    private static final int W = 1, B = 2, L = 4, V = 8, G = 16, A = 32;

    public static void main(String[] args) {
        kinds();
        kindsOfPairs();
        kindsAsNow();
        test();
        testNone();
        testAsNow();
        pairsRefused("28 kinds", i -> x -> x.kinds(i, 0), r -> x -> x.kinds(0, r));
        pairsRefused("29 test", i -> x -> x.test(i, 0), r -> x -> x.test(0, r));
        pairsInOrder("28 kinds", x -> x.kinds(6, 5), x -> x.kinds(6, 3), x -> x.kinds(0, 3));
        pairsInOrder("29 test", x -> x.test(6, 5), x -> x.test(6, 3), x -> x.test(0, 3));
        whose();
        whoseOfEight();
        whoseRefused();
        stays();
        end();
    }

    // ---- kinds

    private static void kindsAre(String boundary, Made made, int kinds, int... pairs) {
        answers("28 kinds", boundary, made, x -> {
            fill(0, pairs).on(x);
            return x.kinds(0, 0);
        }, kinds);
    }

    private static void kinds() {
        kindsAre("a ROW without places: all KINDS", by(ONE), 63);
        kindsAre("a ROW without places of a GIRL: all KINDS", by("d0000000g061"), 63);
        kindsAre("a BRIDE alone", by(ONE), B, 0, 2);
        kindsAre("a GIRL alone", by(ONE), G, 0, 3);
        kindsAre("a WIDOW alone", by(ONE), V, 20, 3);
        kindsAre("a LIAR alone of a YEAR of an even number", by(ONE), L, 20, 5);
        kindsAre("a LIAR or an AUNT of a YEAR of an odd number", by(ONE, floods(0)), L + A, 20, 5);
        kindsAre("a WOMAN alone of a YEAR of an odd number", by(ONE, floods(0)), W, 20, 6, 0, 0);
        kindsAre("a WOMAN or an AUNT of a YEAR of an even number", by(ONE), W + A, 20, 6, 0, 0);
        kindsAre("all but one", by(ONE), W + B + V + A, 3, 3);
        kindsAre("none", by(ONE), 0, 20, 7 + 1);
        kindsAre("none by two pairs that don't go together", by(ONE), 0, 0, 0, 0, 2);
        kindsAre("each pair tells: the first", by(ONE), B, 0, 2, 20, 6);
        kindsAre("each pair tells: the last", by(ONE), B, 20, 6, 0, 2);
        kindsAre("the KIND that she is does not matter", by("d0000000g061"), W + A, 20, 6, 0, 0);
        answers("28 kinds", "WOMAN 5 of 6 is the last", by(SIX, fill(0, 20, 4)), x -> x.kinds(5, 0), V);
        answers("28 kinds", "ROW 0 is the first", by(ONE, fill(0, 0, 2)), x -> x.kinds(0, 0), B);
        answers("28 kinds", "ROW 5 is the last", by(ONE, fill(5, 0, 2)), x -> x.kinds(0, 5), B);
    }

    private static void kindsOfPairs() {
        int[] twenty = new int[40];
        for (int k = 0; k < 40; k += 2) {
            twenty[k] = 20;
            twenty[k + 1] = 6;
        }
        kindsAre("20 pairs are the most", by(ONE), W + B + A, twenty);
        int[] last = twenty.clone();
        last[39] = 7;
        kindsAre("of 20 pairs the last tells", by(ONE), 0, last);
        kindsAre("HEIGHT 0 is the first", by("d9000000w061"), W + L + V + A, 0, 0);
        kindsAre("HEIGHT 20 is the last", by("d9000000w091"), W + B + A, 20, 9);
        kindsAre("HEM 0 is the first", by(ONE), W + L + V + A, 0, 0);
        kindsAre("HEM 10 is the last", by("d0000000w091"), G, 20, 10);
        kindsAre("HEM 10 where none has it", by(ONE), 0, 20, 10);
    }

    private static void kindsAsNow() {
        kindsAre("GROUND as now", by("d0000001w061", x -> x.dyke(0)), W + B + A, 6, 5);
        kindsAre("PLACE as now", by("d0300000w061", x -> x.move(0, 1)), W + B + V + A, 6, 3);
        kindsAre("TUCK as now", by(ONE, x -> x.tuck(0)), L, 6, 4);
        kindsAre("TUCK 3", by("d0000000w063"), L + V, 6, 3);
        kindsAre("TUCK 0", by("d0000000w060"), W + B + L + A, 6, 6);
        kindsAre("TALL 1: half of it, cut, is 0", by("d0000000w010"), V, 20, 0);
        kindsAre("the YEAR that is due is number 7", by(ONE, floods(new int[7])), L + A, 6, 5);
        kindsAre("eight YEARS are past", by(ONE, floods(new int[8])), L, 6, 5);
    }

    // ---- test

    private static void testIs(String boundary, Made made, int height, int part, int... pairs) {
        tells("29 test", boundary, made, x -> {
            fill(0, pairs).on(x);
            return x.test(0, 0);
        }, height, part);
    }

    private static void test() {
        // by TALL 6, TUCK 1: at 0 w, l, v, a are alike; at 1 w, v, a; at 4 w, b, a: l, v, too; at 5 v no more
        testIs("of all KINDS, the first of like ones", by(ONE), 1, 3);
        testIs("one KIND is left: HEIGHT 0, 1", by(ONE), 0, 1, 0, 2);
        testIs("two that HEIGHT 0 tells apart", by(ONE, floods(0)), 0, 1, 20, 6);
        testIs("two that nothing tells apart: HEIGHT 0, 2", by(ONE), 0, 2, 20, 6, 0, 0);
        testIs("all but one", by(ONE), 0, 3, 3, 3);
        testIs("the greatest part, not the last one", by(ONE, floods(0)), 0, 2, 3, 3);
        testIs("HEIGHT 14, by GROUND 9, TALL 9", by("d9000000w090"), 14, 3, 0, 0);
        testIs("HEIGHT 5 by TUCK 1, TALL 9", by("d0000000w091"), 5, 2, 0, 0);
        testIs("HEIGHT 10 by GROUND 9", by("d9000000w010"), 10, 3);
        testIs("three that nothing tells apart: HEIGHT 0, 3", by("d9000000w010"), 0, 3, 20, 1);
        tells("29 test", "WOMAN 5 of 6 is the last", by(SIX, x -> x.row(0, 0)), x -> x.test(5, 0), 6, 3);
        tells("29 test", "ROW 0 is the first", by(ONE, fill(0, 0, 2)), x -> x.test(0, 0), 0, 1);
        tells("29 test", "ROW 5 is the last", by(ONE, fill(5, 0, 2)), x -> x.test(0, 5), 0, 1);
    }

    private static void testNone() {
        String p = "29 test";
        none(p, "there is no KIND", by(ONE, fill(0, 20, 8)), x -> x.test(0, 0));
        none(p, "there is no KIND by two pairs", by(ONE, fill(0, 0, 0, 0, 2)), x -> x.test(0, 0));
        finds(p, "UNLIKE is ahead of NONE", by(ONE, fill(0, 20, 8, 21, 0)), x -> x.test(0, 0), UNLIKE);
        finds(p, "SIZE is ahead of NONE", by(ONE, fill(0, 20, 8, 20)), x -> x.test(0, 0), SIZE);
        refused(p, "BAD is ahead of NONE", by(ONE, fill(0, 20, 8)), x -> x.test(1, 0), BAD);
    }

    private static void testAsNow() {
        testIs("GROUND as now", by("d0000002w061", x -> x.dyke(0), x -> x.dyke(0)), 3, 3);
        testIs("PLACE as now", by("d0500000w061", x -> x.move(0, 1)), 6, 3);
        testIs("TUCK as now", by("d0000000w060", x -> x.tuck(0)), 1, 3);
        testIs("TUCK 0", by("d0000000w060"), 4, 4 - 1, 0, 0);
        testIs("the YEAR that is due is of an odd number", by(ONE, floods(0)), 1, 2);
        testIs("eight YEARS are past", by(ONE, floods(new int[8])), 1, 3);
    }

    // ---- kinds, test: refused

    private static Made pairs(int... pairs) {
        return rich(fill(0, pairs), x -> x.at(4, 0));
    }

    private static void pairsRefused(String p, Numbered woman, Numbered row) {
        bad(p, "of six: WOMAN", pairs(0, 0), woman, -1, 6, LEAST, MOST);
        bad(p, "of one: WOMAN", by(ONE, fill(0, 0, 0)), woman, -1, 1);
        bad(p, "of none: WOMAN", bare(fill(0, 0, 0)), woman, 0);
        bad(p, "of one where six were: WOMAN", fewer(), woman, 1, 5);
        bad(p, "ROW", rich(), row, NO_ROWS);
        finds(p, "a ROW that is missing", rich(), row.by(5), NOTHING);
        finds(p, "1 place is no pair", pairs(0), row.by(0), SIZE);
        finds(p, "3 places are no pairs", pairs(0, 0, 0), row.by(0), SIZE);
        finds(p, "39 places are no pairs", rich(x -> x.row(3, 39)), row.by(3), SIZE);
        for (int v : new int[] {-1, 21, LEAST, MOST}) {
            finds(p, "HEIGHT " + v + " of the first pair is none", pairs(v, 0, 0, 0), row.by(0), UNLIKE);
            finds(p, "HEIGHT " + v + " of the last pair is none", pairs(0, 0, v, 0), row.by(0), UNLIKE);
        }
        for (int v : new int[] {-1, 11, LEAST, MOST}) {
            finds(p, "HEM " + v + " of the first pair is none", pairs(0, v, 0, 0), row.by(0), UNLIKE);
            finds(p, "HEM " + v + " of the last pair is none", pairs(0, 0, 0, v), row.by(0), UNLIKE);
        }
        finds(p, "HEIGHT 20 as a HEM is none", pairs(0, 20), row.by(0), UNLIKE);
        finds(p, "the last of 20 pairs is none", rich(x -> x.row(2, 40), x -> x.lay(2, 39, 11)), row.by(2), UNLIKE);
        answers(p, "a ROW without places is well", by(ONE, x -> x.row(1, 0)), x -> row.by(1).on(x) > FINDING ? 1 : 0,
            1);
    }

    /** Calls: a WOMAN that is none and a ROW that is missing; such a WOMAN, and one by ROW 3. */
    private static void pairsInOrder(String p, Call ofNothing, Call ofNobody, Call call) {
        refused(p, "BAD is ahead of NOTHING", rich(), ofNothing, BAD);
        refused(p, "BAD is ahead of SIZE", rich(fill(3, 0)), ofNobody, BAD);
        refused(p, "BAD is ahead of UNLIKE", rich(fill(3, 21, 0)), ofNobody, BAD);
        finds(p, "SIZE is ahead of UNLIKE", rich(fill(3, 21)), call, SIZE);
        finds(p, "SIZE is ahead of UNLIKE of a pair", rich(fill(3, 0, 11, 0)), call, SIZE);
    }

    // ---- whose

    private static void whoseIs(String boundary, Made made, int set, int just, int... hems) {
        tells("30 whose", boundary, made, x -> {
            fill(0, hems).on(x);
            return x.whose(0);
        }, set, just);
    }

    private static void whose() {
        String three = "d0000000w090b090w040";
        whoseIs("no YEAR is past, a ROW without places: all, just these", by(three), 7, 7);
        whoseIs("a YEAR is past, a ROW without places: all, nobody just", by(three, floods(3)), 7, 0);
        whoseIs("of six, a ROW without places", by(SIX), 63, 63);
        whoseIs("as many as YEARS: just these", by(three, floods(3)), 7, 7, 3);
        whoseIs("one less than YEARS: nobody just", by(three, floods(3, 0)), 7, 0, 3);
        whoseIs("the last HEM tells", by(three, floods(3, 0)), 2, 2, 3, 2);
        whoseIs("the first HEM tells", by(three, floods(0, 3)), 2, 2, 2, 3);
        whoseIs("the first WOMAN alone", by(three, floods(3, 0, 9)), 1, 1, 3, 0, 9);
        whoseIs("the last WOMAN alone", by(three, floods(3, 0, 9)), 4, 4, 3, 0, 4);
        whoseIs("the last of six alone", by("d0000000w010w010w010w010w010w020", floods(9)), 32, 32, 2);
        whoseIs("nobody", by(three, floods(3)), 0, 0, 4);
        whoseIs("nobody by one of two", by(three, floods(3, 3)), 0, 0, 3, 4);
        whoseIs("HEMS that are none are nobody's: -1", by(three, floods(3)), 0, 0, -1);
        whoseIs("HEMS that are none are nobody's: 11", by(three, floods(3)), 0, 0, 11);
        whoseIs("HEMS that are none are nobody's: LEAST", by(three, floods(3)), 0, 0, LEAST);
        whoseIs("HEMS that are none are nobody's: MOST", by(three, floods(3)), 0, 0, MOST);
        whoseIs("HEMS that are none are nobody's: 3 and 256", by(three, floods(3)), 0, 0, 259);
        whoseIs("a HEM of 10", by("d0000000g090", floods(20)), 1, 1, 10);
        whoseIs("HEMS as of then", by("d0000001w090", floods(5), x -> x.dyke(0)), 1, 1, 5);
        whoseIs("a YEAR was undone", by(three, floods(3, 0), x -> x.undo(1)), 7, 7, 3);
        tells("30 whose", "ROW 0 is the first", by(three, x -> x.row(0, 0)), x -> x.whose(0), 7, 7);
        tells("30 whose", "ROW 5 is the last", by(three, x -> x.row(5, 0)), x -> x.whose(5), 7, 7);
    }

    private static void whoseOfEight() {
        Made eight = by("d0000000w090b090", floods(9, 8, 7, 6, 5, 4, 3, 0));
        whoseIs("8 HEMS are the most", eight, 1, 1, 9, 8, 7, 6, 5, 4, 3, 0);
        whoseIs("8 HEMS, the last tells", eight, 2, 2, 9, 8, 7, 6, 5, 4, 3, 2);
        whoseIs("8 HEMS, nobody's last", eight, 0, 0, 9, 8, 7, 6, 5, 4, 3, 1);
        whoseIs("7 of 8 HEMS", eight, 3, 0, 9, 8, 7, 6, 5, 4, 3);
    }

    private static void whoseRefused() {
        String p = "30 whose";
        bad(p, "ROW", rich(), r -> x -> x.whose(r), NO_ROWS);
        refused(p, "no WOMEN", bare(x -> x.row(0, 0)), x -> x.whose(0), STATE);
        finds(p, "a ROW that is missing", rich(), x -> x.whose(5), NOTHING);
        finds(p, "1 more than YEARS past: 0", by(ONE, fill(0, 0)), x -> x.whose(0), SIZE);
        finds(p, "1 more than YEARS past: 2", rich(), x -> x.whose(0), SIZE);
        finds(p, "1 more than YEARS past: 8", by(ONE, floods(new int[8]), x -> x.row(0, 9)), x -> x.whose(0), SIZE);
        finds(p, "40 places", rich(), x -> x.whose(2), SIZE);
        finds(p, "more than YEARS where one was undone", by(ONE, floods(0, 0), x -> x.undo(1), fill(0, 0, 0)),
            x -> x.whose(0), SIZE);
        refused(p, "BAD is ahead of no WOMEN (6)", bare(), x -> x.whose(6), BAD);
        refused(p, "BAD is ahead of no WOMEN (-1)", bare(), x -> x.whose(-1), BAD);
        refused(p, "no WOMEN is ahead of NOTHING", bare(), x -> x.whose(0), STATE);
        refused(p, "no WOMEN is ahead of SIZE", bare(x -> x.row(0, 1)), x -> x.whose(0), STATE);
    }

    private static void stays() {
        Call[] calls = {x -> x.kinds(0, 4), x -> x.test(0, 1), x -> x.whose(4)};
        String[] promises = {"28 kinds", "29 test", "30 whose"};
        for (int k = 0; k < calls.length; k++) {
            Call call = calls[k];
            test(promises[k], "nothing but asked() changes", () -> {
                HemLine x = rich().make(), same = rich().make();
                is("refused", call.on(x) < 0 ? 1 : 0, 0);
                is("digest()", x.digest(), same.digest());
                is("upper()", x.upper(), same.upper());
                is("finding()", x.finding(), same.finding());
            });
        }
        test("28 kinds", "asked() stays", () -> is("asked()", rich(x -> x.kinds(0, 4)).make().asked(), 7));
    }
}
