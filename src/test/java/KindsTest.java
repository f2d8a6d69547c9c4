/** Promises 28 to 30: kinds, test, whose. */
public final class KindsTest {
    private static final Check check = new Check();
    private static final int LEAST = Integer.MIN_VALUE, MOST = Integer.MAX_VALUE;

    public static void main(String[] args) {
        kinds();
        kindsByNow();
        test();
        pairsRefused();
        whose();
        whoseRefused();
        check.end();
    }

    private static void kindsAre(HemLine x, int i, int want, int... pairs) {
        Check.fill(x, 4, pairs);
        check.due("kinds(" + i + ", " + java.util.Arrays.toString(pairs) + ")", x.kinds(i, 4), want);
    }

    private static void kinds() {
        HemLine x = Check.by("d0200000 w061 g191");
        kindsAre(x, 0, 63);
        // of YEAR 0 an AUNT is as a WOMAN
        kindsAre(x, 0, 1 + 8 + 32, 0, 0, 1, 1);
        kindsAre(x, 0, 1 + 4 + 8 + 32, 0, 0);
        kindsAre(x, 0, 2, 0, 2);
        kindsAre(x, 0, 16, 0, 3);
        kindsAre(x, 0, 8, 20, 3);
        kindsAre(x, 0, 4, 20, 5);
        kindsAre(x, 0, 1 + 2 + 32, 20, 6);
        kindsAre(x, 0, 16, 20, 7);
        kindsAre(x, 0, 0, 20, 8);
        kindsAre(x, 0, 0, 0, 0, 0, 2);
        kindsAre(x, 0, 1 + 32, 6, 6, 0, 0, 6, 6, 0, 0);
        kindsAre(x, 1, 16, 20, 10);
        kindsAre(x, 1, 4 + 8 + 1 + 32, 0, 0);
        check.due("asked() stays", x.asked(), 0);
    }

    /** In the YEAR that is due, with PLACE, GROUND, TUCK as now. */
    private static void kindsByNow() {
        HemLine x = Check.by("d0200001 w061");
        x.flood(3);
        kindsAre(x, 0, 4 + 32, 5, 4);
        kindsAre(x, 0, 1 + 2, 5, 5);
        x.tuck(0);
        kindsAre(x, 0, 4 + 32 + 8, 5, 3);
        x.move(0, 1);
        kindsAre(x, 0, 1 + 2 + 8, 5, 3);
        x.dyke(1);
        kindsAre(x, 0, 1 + 2 + 8, 5, 2);
    }

    private static void testIs(HemLine x, int i, int height, int part, int... pairs) {
        Check.fill(x, 4, pairs);
        check.due("test(" + i + ", " + java.util.Arrays.toString(pairs) + ")", x.test(i, 4), height);
        check.due("asked()", x.asked(), part);
    }

    private static void test() {
        HemLine x = Check.by("d0000000 w061 w011 w090");
        // at 0: w, l, v, a 0; b 2; g 3. At 1: w, v, a 1; l 0; b 2; g 3.
        testIs(x, 0, 1, 3);
        testIs(x, 0, 0, 2, 0, 0, 20, 6);
        testIs(x, 0, 0, 1, 20, 7);
        testIs(x, 0, 4, 2, 0, 0);
        Check.fill(x, 4, 20, 8);
        check.refused(x, "test(0) of none", y -> y.test(0, 4), HemLine.NONE);
        x.flood(0);
        // an AUNT is as a LIAR now
        testIs(x, 0, 1, 2);
        testIs(x, 0, 0, 1, 20, 6);
        testIs(x, 0, 0, 2, 20, 5);
        HemLine v = Check.by("d0000000 w080 w090");
        // KINDS w, l, v, a without TUCKS are one but for a WIDOW above 4
        testIs(v, 0, 5, 3, 0, 0);
        testIs(v, 0, 0, 4);
    }

    private static void pairsRefused() {
        HemLine x = Check.by("d0000000 w061 w011");
        x.row(0, 0);
        for (int i : new int[] {-1, 2, LEAST, MOST}) {
            check.refused(x, "kinds(" + i + ", 5)", y -> y.kinds(i, 5), HemLine.BAD);
            check.refused(x, "test(" + i + ", 5)", y -> y.test(i, 5), HemLine.BAD);
        }
        for (int r : new int[] {-1, 6, LEAST, MOST}) {
            check.refused(x, "kinds(0, " + r + ")", y -> y.kinds(0, r), HemLine.BAD);
            check.refused(x, "test(0, " + r + ")", y -> y.test(0, r), HemLine.BAD);
        }
        check.refused(new HemLine(), "kinds(0, 0) of nobody", y -> y.kinds(0, 0), HemLine.BAD);
        check.refused(new HemLine(), "test(0, 0) of nobody", y -> y.test(0, 0), HemLine.BAD);
        check.finding(x, "kinds(0, 5)", y -> y.kinds(0, 5), 1);
        check.finding(x, "test(0, 5)", y -> y.test(0, 5), 1);
        pairsRefusedBy(x, 5, 21);
        pairsRefusedBy(x, 5, 3, 3, 99);
        pairsRefusedBy(x, 3, 21, 0);
        pairsRefusedBy(x, 3, -1, 0);
        pairsRefusedBy(x, 3, 0, 11);
        pairsRefusedBy(x, 3, 0, -1);
        pairsRefusedBy(x, 3, 0, 9, 0, 11);
        pairsRefusedBy(x, 3, 0, 0, LEAST, 0);
        pairsRefusedBy(x, 3, 0, 0, 0, MOST);
        kindsAre(x, 0, 0, 20, 10, 0, 0);
    }

    private static void pairsRefusedBy(HemLine x, int which, int... pairs) {
        Check.fill(x, 3, pairs);
        String told = java.util.Arrays.toString(pairs);
        check.finding(x, "kinds(1, " + told + ")", y -> y.kinds(1, 3), which);
        check.finding(x, "test(1, " + told + ")", y -> y.test(1, 3), which);
    }

    private static void whoseIs(HemLine x, int want, int just, int... hems) {
        Check.fill(x, 2, hems);
        check.due("whose(" + java.util.Arrays.toString(hems) + ")", x.whose(2), want);
        check.due("asked()", x.asked(), just);
    }

    private static void whose() {
        HemLine x = Check.by("d0000000 w090 b090 w040");
        whoseIs(x, 7, 7);
        x.flood(3);
        whoseIs(x, 7, 7, 3);
        whoseIs(x, 7, 0);
        whoseIs(x, 0, 0, 2);
        x.flood(0);
        whoseIs(x, 7, 0, 3);
        whoseIs(x, 5, 5, 3, 0);
        whoseIs(x, 2, 2, 3, 2);
        x.flood(7);
        whoseIs(x, 5, 0, 3, 0);
        whoseIs(x, 4, 4, 3, 0, 4);
        whoseIs(x, 1, 1, 3, 0, 7);
        whoseIs(x, 0, 0, 3, 0, 5);
        whoseIs(x, 7, 0);
        for (int k = 0; k < 5; k++) {
            x.flood(1);
        }
        whoseIs(x, 1, 1, 3, 0, 7, 1, 1, 1, 1, 1);
        whoseIs(x, 0, 0, 3, 0, 7, 1, 1, 1, 1, 0);
    }

    private static void whoseRefused() {
        HemLine none = new HemLine();
        check.refused(none, "whose(0) of nobody", y -> y.whose(0), HemLine.STATE);
        check.refused(none, "whose(6) of nobody", y -> y.whose(6), HemLine.BAD);
        HemLine x = Check.by("d0000000 w090");
        x.flood(3);
        Check.fill(x, 1, 3, 3);
        check.finding(x, "whose(0)", y -> y.whose(0), 1);
        check.finding(x, "whose(1)", y -> y.whose(1), 5);
        for (int r : new int[] {-1, 6, LEAST, MOST}) {
            check.refused(x, "whose(" + r + ")", y -> y.whose(r), HemLine.BAD);
        }
        for (int k = 0; k < 7; k++) {
            x.flood(3);
        }
        x.row(1, 9);
        check.finding(x, "whose of 9", y -> y.whose(1), 5);
    }
}
