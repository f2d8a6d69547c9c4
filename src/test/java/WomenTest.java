/** Promises 12 to 15: woman, mark, hem, would. */
public final class WomenTest {
    private static final Check check = new Check();
    private static final int LEAST = Integer.MIN_VALUE, MOST = Integer.MAX_VALUE;

    public static void main(String[] args) {
        would();
        wouldByYears();
        wouldRefused();
        hem();
        hemRefused();
        woman();
        womanRefused();
        mark();
        markByYears();
        markRefused();
        check.end();
    }

    private static void hemsWould(HemLine x, int i, int... hems) {
        for (int f = 0; f < hems.length; f++) {
            check.due("would(" + i + ", " + f + ")", x.would(i, f), hems[f]);
        }
    }

    private static void would() {
        HemLine x = Check.by("d0300000 w153 b051 l052 v050 g051 a052");
        hemsWould(x, 0, 0, 0, 0, 0, 1, 2, 3, 4, 5, 5, 5, 5, 5, 5, 5, 5, 5, 5, 5, 5, 5);
        hemsWould(x, 1, 2, 2, 2, 3, 4, 5, 5, 5, 5);
        hemsWould(x, 2, 0, 0, 0, 1, 2, 3, 3, 3, 3);
        hemsWould(x, 3, 0, 1, 2, 2, 2, 2, 2, 2, 2);
        hemsWould(x, 4, 3, 3, 3, 4, 5, 6, 6, 6, 6);
        hemsWould(x, 5, 0, 1, 2, 3, 4, 5, 5, 5, 5);
        x.tuck(2);
        x.move(0, 0);
        hemsWould(x, 2, 0, 0, 0, 0, 1, 2, 2);
        hemsWould(x, 0, 0, 1, 2, 3, 4, 5, 5);
        HemLine small = Check.by("d0000000 w010 b013 l011 v010 g013 a011");
        hemsWould(small, 0, 0, 1, 1);
        hemsWould(small, 1, 2, 2, 2);
        hemsWould(small, 2, 0, 0, 0);
        hemsWould(small, 3, 0, 0, 0);
        hemsWould(small, 4, 3, 3, 3);
        hemsWould(small, 5, 0, 1, 1);
        HemLine tall = Check.by("d9000000 w090 b090 l093 v090 g090 a093");
        int[] hems = {9, 9, 6, 4, 10, 9};
        for (int i = 0; i < 6; i++) {
            check.due("would(" + i + ", 20)", tall.would(i, 20), hems[i]);
            check.due("would(" + i + ", 9)", tall.would(i, 9), new int[] {0, 2, 0, 0, 3, 0}[i]);
        }
    }

    private static void wouldByYears() {
        HemLine x = Check.by("d0000000 a062");
        for (int y = 0; y < 8; y++) {
            check.due("would(0, 5) of " + y, x.would(0, 5), y % 2 == 0 ? 5 : 3);
            x.flood(5);
            check.due("hem(0, " + y + ")", x.hem(0, y), y % 2 == 0 ? 5 : 3);
        }
        check.due("would(0, 5) of 8", x.would(0, 5), 5);
    }

    private static void wouldRefused() {
        HemLine x = Check.by("d0000000 w010 w010");
        int[][] bad = {{-1, 0}, {2, 0}, {0, -1}, {0, 21}, {LEAST, 0}, {MOST, 0}, {1, LEAST}, {1, MOST}};
        for (int[] b : bad) {
            check.refused(x, "would(" + b[0] + ", " + b[1] + ")", y -> y.would(b[0], b[1]), HemLine.BAD);
        }
        check.refused(new HemLine(), "would(0, 0) of nobody", y -> y.would(0, 0), HemLine.BAD);
    }

    private static void hem() {
        HemLine x = Check.by("d0000009 w090 l091");
        x.flood(5);
        x.dyke(0);
        x.tuck(1);
        x.flood(5);
        x.move(0, 3);
        x.tuck(1);
        x.flood(5);
        int[] plain = {5, 4, 5}, less = {4, 2, 1};
        for (int y = 0; y < 3; y++) {
            check.due("hem(0, " + y + ")", x.hem(0, y), plain[y]);
            check.due("hem(1, " + y + ")", x.hem(1, y), less[y]);
        }
        x.move(0, 0);
        x.dyke(3);
        x.move(1, 3);
        for (int y = 0; y < 3; y++) {
            check.due("hem(0, " + y + ") behind deeds", x.hem(0, y), plain[y]);
            check.due("hem(1, " + y + ") behind deeds", x.hem(1, y), less[y]);
        }
    }

    private static void hemRefused() {
        HemLine x = Check.by("d0000000 w010 w010");
        check.refused(x, "hem(0, 0) of no YEAR", y -> y.hem(0, 0), HemLine.BAD);
        x.flood(1);
        int[][] bad = {{-1, 0}, {2, 0}, {0, -1}, {0, 1}, {MOST, 0}, {0, MOST}, {LEAST, 0}, {0, LEAST}};
        for (int[] b : bad) {
            check.refused(x, "hem(" + b[0] + ", " + b[1] + ")", y -> y.hem(b[0], b[1]), HemLine.BAD);
        }
        for (int k = 0; k < 7; k++) {
            x.flood(1);
        }
        check.due("hem(1, 7)", x.hem(1, 7), 1);
        check.refused(x, "hem(1, 8)", y -> y.hem(1, 8), HemLine.BAD);
    }

    private static void womanIs(HemLine x, int i, int... facts) {
        for (int what = 0; what < facts.length; what++) {
            check.due("woman(" + i + ", " + what + ")", x.woman(i, what), 1);
            check.due("asked()", x.asked(), facts[what]);
        }
    }

    private static void woman() {
        HemLine x = Check.by("d0000000 v340 b151 l190 g213 a042 w411");
        womanIs(x, 0, 3, 3, 4, 0, 0, 0);
        womanIs(x, 5, 0, 4, 1, 1, 0, 0);
        x.flood(3);
        x.flood(1);
        x.flood(0);
        x.tuck(0);
        x.move(0, 5);
        womanIs(x, 0, 3, 5, 4, 1, 3, 2);
        womanIs(x, 1, 1, 1, 5, 1, 3, 3);
        HemLine girl = Check.by("d0000000 g293");
        girl.flood(20);
        girl.flood(2);
        womanIs(girl, 0, 4, 2, 9, 3, 2, 10);
    }

    private static void womanRefused() {
        HemLine x = Check.by("d0000000 w010");
        int[][] bad = {{-1, 0}, {1, 0}, {0, -1}, {0, 6}, {MOST, MOST}, {LEAST, LEAST}};
        x.woman(0, 2);
        for (int[] b : bad) {
            check.refused(x, "woman(" + b[0] + ", " + b[1] + ")", y -> y.woman(b[0], b[1]), HemLine.BAD);
        }
        check.refused(new HemLine(), "woman(0, 0) of nobody", y -> y.woman(0, 0), HemLine.BAD);
    }

    private static void mark() {
        HemLine x = Check.by("d0000000 w050 b051 l052 v050 g051 a052");
        for (int i = 1; i < 6; i++) {
            check.due("mark(" + i + ", " + i + ") at first", x.mark(i, i), 0);
        }
        for (int f : new int[] {0, 1, 2, 4, 9}) {
            x.flood(f);
        }
        check.due("mark(1, 1)", x.mark(1, 1), 1);
        check.due("mark(2, 2)", x.mark(2, 2), 0 + 1 + 2 + 2 + 2);
        check.due("mark(3, 3)", x.mark(3, 3), 2);
        check.due("mark(4, 1)", x.mark(4, 1), 2);
        check.due("mark(4, 4)", x.mark(4, 4), 3 + 2 + 1 + 1 + 1);
        check.due("mark(5, 2)", x.mark(5, 2), 1 + 2);
        check.due("mark(5, 5)", x.mark(5, 5), 1);
    }

    /** By the GROUND and the TUCK that there were; an AUNT by the YEAR that is due. */
    private static void markByYears() {
        HemLine x = Check.by("d0000009 b090 l090 a091");
        x.flood(1);
        x.dyke(0);
        x.tuck(1);
        x.flood(4);
        x.tuck(1);
        x.flood(1);
        check.due("mark(0, 1)", x.mark(0, 1), 1);
        check.due("mark(1, 2)", x.mark(1, 2), 1);
        check.due("mark(2, 2)", x.mark(2, 2), 1);
        check.due("mark(2, 5) of 3", x.mark(2, 5), 1);
        x.flood(9);
        check.due("mark(2, 5) of 4", x.mark(2, 5), 0);
        check.due("mark(1, 2)", x.mark(1, 2), 3);
        for (int k = 0; k < 4; k++) {
            x.flood(0);
        }
        check.due("mark(2, 5) of 8", x.mark(2, 5), 0);
    }

    private static void markRefused() {
        HemLine x = Check.by("d0000000 w050 b050 l050 v050 g050 a050");
        x.flood(3);
        boolean[][] is = new boolean[6][6];
        for (int k = 1; k < 6; k++) {
            is[k][k] = true;
        }
        is[4][1] = true;
        is[5][2] = true;
        for (int i = 0; i < 6; i++) {
            for (int kind = 1; kind < 6; kind++) {
                int a = i, b = kind;
                if (!is[i][kind]) {
                    check.finding(x, "mark(" + i + ", " + kind + ")", y -> y.mark(a, b), 3);
                } else {
                    check.due("mark(" + i + ", " + kind + ") is well", x.mark(i, kind) >= 0 ? 1 : 0, 1);
                }
            }
            int c = i;
            check.refused(x, "mark(" + i + ", 0)", y -> y.mark(c, 0), HemLine.BAD);
            check.refused(x, "mark(" + i + ", 6)", y -> y.mark(c, 6), HemLine.BAD);
            check.refused(x, "mark(" + i + ", -1)", y -> y.mark(c, -1), HemLine.BAD);
        }
        check.refused(x, "mark(6, 1)", y -> y.mark(6, 1), HemLine.BAD);
        check.refused(x, "mark(-1, 1)", y -> y.mark(-1, 1), HemLine.BAD);
    }
}
