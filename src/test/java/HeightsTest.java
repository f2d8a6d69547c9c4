/** Promises 23 to 27: know, high, look, looks, line. */
public final class HeightsTest {
    private static final Check check = new Check();
    private static final int LEAST = Integer.MIN_VALUE, MOST = Integer.MAX_VALUE;
    private static final int ALL = 2097151;

    public static void main(String[] args) {
        know();
        knowByThen();
        high();
        look();
        looks();
        line();
        refused();
        check.end();
    }

    /** Bits of the HEIGHTS from one to another one. */
    private static int bits(int from, int to) {
        int set = 0;
        for (int f = from; f <= to; f++) {
            set |= 1 << f;
        }
        return set;
    }

    private static void knows(HemLine x, int set, int y, int heights) {
        check.due("know(" + set + ", " + y + ")", x.know(set, y), heights);
        check.due("asked()", x.asked(), Integer.bitCount(heights));
    }

    private static void know() {
        HemLine x = Check.by("d0300000 w040 w140 b090 l093 v080 g130");
        x.flood(4);
        knows(x, 0, 0, ALL);
        knows(x, 1, 0, bits(4, 20));
        knows(x, 2, 0, bits(4, 4));
        knows(x, 4, 0, bits(4, 4));
        knows(x, 8, 0, bits(4, 4));
        knows(x, 16, 0, bits(4, 20));
        knows(x, 32, 0, bits(0, 5));
        knows(x, 33, 0, bits(4, 5));
        knows(x, 63, 0, bits(4, 4));
        x.flood(0);
        knows(x, 1, 1, bits(0, 0));
        knows(x, 2, 1, bits(0, 3));
        knows(x, 4, 1, bits(0, 2));
        knows(x, 8, 1, bits(0, 3));
        knows(x, 40, 1, bits(0, 3));
        x.flood(20);
        knows(x, 1, 2, bits(4, 20));
        knows(x, 2, 2, bits(7, 20));
        knows(x, 63, 2, bits(9, 20));
        knows(x, 32, 2, bits(6, 20));
        knows(x, 63, 0, bits(4, 4));
    }

    /** By PLACE, GROUND, TUCK as they were; an AUNT by the number of the YEAR. */
    private static void knowByThen() {
        HemLine x = Check.by("d0000009 l091 a093");
        x.flood(1);
        x.flood(1);
        x.dyke(0);
        x.dyke(0);
        x.tuck(0);
        x.move(1, 4);
        x.flood(1);
        knows(x, 1, 0, bits(0, 1));
        knows(x, 2, 0, bits(1, 1));
        knows(x, 1, 1, bits(0, 1));
        knows(x, 2, 1, bits(0, 3));
        knows(x, 1, 2, bits(0, 4));
        knows(x, 2, 2, bits(1, 1));
    }

    private static void high() {
        HemLine x = Check.by("d0000000 w090 l033");
        for (int f : new int[] {0, 8, 9, 20}) {
            x.flood(f);
        }
        check.due("high(0)", x.high(0), 0);
        check.due("high(1)", x.high(1), 8);
        check.due("high(2)", x.high(2), HemLine.NONE);
        check.due("high(3)", x.high(3), HemLine.NONE);
        HemLine two = Check.by("d4900000 w040 g190");
        two.flood(7);
        two.flood(20);
        two.flood(11);
        two.flood(12);
        check.due("high(0)", two.high(0), 7);
        check.due("high(1)", two.high(1), HemLine.NONE);
        check.due("high(2)", two.high(2), HemLine.NONE);
        check.due("high(3)", two.high(3), 12);
        check.due("asked() stays", two.asked(), 0);
    }

    private static void looksAt(HemLine x, int set, int y, int who, int part) {
        check.due("look(" + set + ", " + y + ")", x.look(set, y), who);
        check.due("asked()", x.asked(), part);
    }

    private static void look() {
        HemLine x = Check.by("d0000000 w010 w050 w050 w090 l093 b020");
        x.flood(3);
        looksAt(x, 0, 0, 3, 12);
        looksAt(x, 8, 0, 0, 1);
        looksAt(x, 1, 0, 3, 12);
        looksAt(x, 9, 0, 1, 1);
        looksAt(x, 9 + 2, 0, 2, 1);
        looksAt(x, 63 - 1, 0, 0, 1);
        x.flood(20);
        looksAt(x, 8, 1, 0, 12);
        looksAt(x, 2, 1, 3, 12);
        check.refused(x, "look(63, 0)", y -> y.look(63, 0), HemLine.NONE);
        HemLine girl = Check.by("d0000000 g090 g050");
        girl.flood(20);
        looksAt(girl, 0, 0, 0, 12);
        looksAt(girl, 2, 0, 0, 12);
        looksAt(girl, 1, 0, 1, 12);
        HemLine low = Check.by("d9000000 l091");
        low.flood(0);
        looksAt(low, 0, 0, 0, 11);
        HemLine two = Check.by("d0000000 w010 w050 w030");
        two.flood(2);
        looksAt(two, 0, 0, 1, 16);
        looksAt(two, 2, 0, 0, 1);
        looksAt(two, 1, 0, 1, 16);
        looksAt(two, 3, 0, 2, 1);
        two.flood(4);
        looksAt(two, 2, 1, 0, 1);
        two.flood(6);
        looksAt(two, 4, 2, 1, 16);
        looksAt(two, 5, 2, 1, 16);
        looksAt(two, 6, 2, 0, 16);
    }

    private static void looksAre(HemLine x, int y, int many, int which) {
        check.due("looks(" + y + ")", x.looks(y), many);
        check.due("asked()", x.asked(), which);
    }

    private static void looks() {
        HemLine x = Check.by("d3300000 w010 w150 w040 g190");
        x.flood(5);
        looksAre(x, 0, 1, 2);
        x.flood(3);
        looksAre(x, 1, 1, 1);
        x.flood(20);
        looksAre(x, 2, 1, 8);
        HemLine all = Check.by("d0000000 b011 v010 l022");
        all.flood(7);
        looksAre(all, 0, 0, 0);
        // a GIRL knows that it was 5 at most, a WOMAN that it was 4 or more
        HemLine two = Check.by("d3100000 g090 w130 g090");
        two.flood(4);
        looksAre(two, 0, 2, 3);
        HemLine late = Check.by("d9310000 w010 w220 g190 w230 g190");
        late.flood(4);
        looksAre(late, 0, 2, 4 + 8);
    }

    private static void lineIs(HemLine x, int y, int changes, int first) {
        check.due("line(" + y + ")", x.line(y), changes);
        check.due("asked()", x.asked(), first);
    }

    private static void line() {
        HemLine x = Check.by("d0000000 w090 w080 w070 w060 w050 w040");
        x.flood(20);
        x.flood(0);
        x.flood(6);
        lineIs(x, 0, 15, 5);
        lineIs(x, 1, 0, 0);
        lineIs(x, 2, 4 + 4 + 1, 5);
        HemLine y = Check.by("d0000000 w030 w010 w020 w010 w090");
        y.flood(20);
        lineIs(y, 0, 3 + 0 + 1, 1);
        HemLine one = Check.by("d0000000 w030");
        one.flood(5);
        lineIs(one, 0, 0, 0);
    }

    private static void refused() {
        refusedYears(Check.by("d0000000 w030 w020"), 0);
        HemLine flooded = Check.by("d0000000 w030 w020");
        flooded.flood(3);
        refusedYears(flooded, 1);
        HemLine x = Check.by("d0000000 w030 w020");
        x.flood(3);
        for (int set : new int[] {-1, 4, 63, LEAST, MOST}) {
            check.refused(x, "know(" + set + ", 0)", y -> y.know(set, 0), HemLine.BAD);
            check.refused(x, "look(" + set + ", 0)", y -> y.look(set, 0), HemLine.BAD);
        }
        check.due("know(3, 0)", x.know(3, 0), bits(3, 20));
        check.refused(x, "look(3, 0)", y -> y.look(3, 0), HemLine.NONE);
        refusedYears(new HemLine(), 0);
    }

    private static void refusedYears(HemLine x, int first) {
        for (int m : new int[] {-1, first, first + 1, LEAST, MOST}) {
            check.refused(x, "know(0, " + m + ")", y -> y.know(0, m), HemLine.BAD);
            check.refused(x, "high(" + m + ")", y -> y.high(m), HemLine.BAD);
            check.refused(x, "look(0, " + m + ")", y -> y.look(0, m), HemLine.BAD);
            check.refused(x, "look(3, " + m + ")", y -> y.look(3, m), HemLine.BAD);
            check.refused(x, "looks(" + m + ")", y -> y.looks(m), HemLine.BAD);
            check.refused(x, "line(" + m + ")", y -> y.line(m), HemLine.BAD);
        }
    }
}
