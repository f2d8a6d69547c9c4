/** Promises 16 to 22: flood, move, dyke, tuck, undo, keep, on. */
public final class DeedsTest {
    private static final Check check = new Check();
    private static final int LEAST = Integer.MIN_VALUE, MOST = Integer.MAX_VALUE;

    public static void main(String[] args) {
        flood();
        floodRefused();
        move();
        moveRefused();
        dyke();
        dykeRefused();
        tuck();
        tuckRefused();
        undo();
        undoRefused();
        keepAndOn();
        keptWithDeeds();
        keepRefused();
        onRefused();
        check.end();
    }

    private static void flood() {
        HemLine x = Check.by("d0359000 w010 b110 l210 g310");
        int[] heights = {0, 1, 3, 4, 5, 6, 9, 20};
        int[] wet = {0, 1, 1, 2, 2, 3, 3, 4};
        for (int k = 0; k < heights.length; k++) {
            check.due("flood(" + heights[k] + ")", x.flood(heights[k]), wet[k]);
            check.due("count(1)", x.count(1), k + 1);
            check.due("count(2)", x.count(2), k + 1);
            check.due("count(6)", x.count(6), heights[k]);
        }
    }

    private static void floodRefused() {
        HemLine none = new HemLine();
        check.refused(none, "flood(-1) of nobody", y -> y.flood(-1), HemLine.BAD);
        check.refused(none, "flood(0) of nobody", y -> y.flood(0), HemLine.STATE);
        HemLine x = Check.by("d0000000 w010");
        for (int f : new int[] {-1, 21, LEAST, MOST}) {
            check.refused(x, "flood(" + f + ")", y -> y.flood(f), HemLine.BAD);
        }
        for (int k = 0; k < 7; k++) {
            x.flood(k);
        }
        Check.moveTill(x, 40);
        check.refused(x, "flood(3) with 40 deeds", y -> y.flood(3), HemLine.FULL);
        check.refused(x, "flood(21) with 40 deeds", y -> y.flood(21), HemLine.BAD);
        x.undo(39);
        check.due("flood(7), the 40th deed", x.flood(7), 1);
        check.refused(x, "flood(3) with 8 years, 40 deeds", y -> y.flood(3), HemLine.STATE);
        x.undo(8);
        x.undo(7);
        x.flood(1);
        check.due("count(1)", x.count(1), 8);
        check.refused(x, "flood(3) with 8 years", y -> y.flood(3), HemLine.STATE);
    }

    private static void move() {
        HemLine x = Check.by("d0000000 w310 w410");
        check.due("move(0, 0)", x.move(0, 0), 3);
        check.due("move(0, 5)", x.move(0, 5), 0);
        check.due("move(1, 5)", x.move(1, 5), 4);
        check.due("move(0, 3)", x.move(0, 3), 5);
        x.woman(0, 1);
        check.due("asked()", x.asked(), 3);
        x.woman(1, 1);
        check.due("asked()", x.asked(), 5);
        check.due("count(2)", x.count(2), 4);
    }

    private static void moveRefused() {
        HemLine x = Check.by("d0000000 w010 w410");
        check.refused(x, "move(0, 0)", y -> y.move(0, 0), HemLine.STATE);
        int[][] bad = {{-1, 1}, {2, 1}, {0, -1}, {0, 6}, {MOST, 0}, {0, MOST}, {LEAST, 0}, {0, LEAST}};
        Check.moveTill(x, 39);
        check.due("move(1, 5), the 40th deed", x.move(1, 5), 4);
        for (int[] b : bad) {
            check.refused(x, "move(" + b[0] + ", " + b[1] + ")", y -> y.move(b[0], b[1]), HemLine.BAD);
        }
        check.refused(x, "move(1, 5) with 40 deeds", y -> y.move(1, 5), HemLine.STATE);
        check.refused(x, "move(1, 4) with 40 deeds", y -> y.move(1, 4), HemLine.FULL);
        check.refused(new HemLine(), "move(0, 0) of nobody", y -> y.move(0, 0), HemLine.BAD);
    }

    private static void dyke() {
        HemLine x = Check.by("d0000083 w010");
        check.due("dyke(5)", x.dyke(5), 9);
        check.due("dyke(0)", x.dyke(0), 1);
        check.due("count(3)", x.count(3), 1);
        check.due("count(4)", x.count(4), 10);
        check.due("dyke(0)", x.dyke(0), 2);
        check.due("count(3)", x.count(3), 0);
        check.due("count(2)", x.count(2), 3);
        check.due("dry()", x.dry(), 2);
    }

    private static void dykeRefused() {
        HemLine none = new HemLine();
        check.refused(none, "dyke(6) of nobody", y -> y.dyke(6), HemLine.BAD);
        check.refused(none, "dyke(0) of nobody", y -> y.dyke(0), HemLine.STATE);
        HemLine x = Check.by("d9000001 w010");
        for (int p : new int[] {-1, 6, LEAST, MOST}) {
            check.refused(x, "dyke(" + p + ")", y -> y.dyke(p), HemLine.BAD);
        }
        check.refused(x, "dyke(0) at 9", y -> y.dyke(0), HemLine.STATE);
        Check.moveTill(x, 40);
        check.refused(x, "dyke(0) at 9 with 40 deeds", y -> y.dyke(0), HemLine.STATE);
        check.refused(x, "dyke(1) with 40 deeds", y -> y.dyke(1), HemLine.FULL);
        x.undo(39);
        check.due("dyke(1), the 40th deed", x.dyke(1), 1);
        check.refused(x, "dyke(0) at 9 without earth", y -> y.dyke(0), HemLine.STATE);
        check.refused(x, "dyke(1) without earth", y -> y.dyke(1), HemLine.SPENT);
        check.refused(x, "dyke(6) without earth", y -> y.dyke(6), HemLine.BAD);
    }

    private static void tuck() {
        HemLine x = Check.by("d0000000 w010 l012");
        check.due("tuck(0)", x.tuck(0), 1);
        check.due("tuck(0)", x.tuck(0), 2);
        check.due("tuck(0)", x.tuck(0), 3);
        check.due("tuck(1)", x.tuck(1), 3);
        check.due("count(5)", x.count(5), 6);
        check.due("count(2)", x.count(2), 4);
    }

    private static void tuckRefused() {
        HemLine x = Check.by("d0000000 w010 l013");
        check.refused(x, "tuck(-1)", y -> y.tuck(-1), HemLine.BAD);
        check.refused(x, "tuck(2)", y -> y.tuck(2), HemLine.BAD);
        check.refused(x, "tuck(1)", y -> y.tuck(1), HemLine.STATE);
        Check.moveTill(x, 39);
        check.due("tuck(0), the 40th deed", x.tuck(0), 1);
        check.refused(x, "tuck(0) with 40 deeds", y -> y.tuck(0), HemLine.FULL);
        check.refused(x, "tuck(1) with 40 deeds", y -> y.tuck(1), HemLine.STATE);
        check.refused(x, "tuck(2) with 40 deeds", y -> y.tuck(2), HemLine.BAD);
        check.refused(new HemLine(), "tuck(0) of nobody", y -> y.tuck(0), HemLine.BAD);
    }

    private static void undo() {
        HemLine x = Check.by("d1200005 l031 w130");
        long[] digests = new long[9];
        for (int k = 0; k < 8; k++) {
            digests[k] = x.digest();
            switch (k) {
                case 0: x.flood(4); break;
                case 1: x.move(0, 1); break;
                case 2: x.dyke(1); break;
                case 3: x.tuck(0); break;
                case 4: x.flood(9); break;
                case 5: x.dyke(1); break;
                case 6: x.move(0, 2); break;
                default: x.flood(2); break;
            }
            check.due("count(2)", x.count(2), k + 1);
        }
        digests[8] = x.digest();
        check.due("undo(8)", x.undo(8), 0);
        check.due("digest()", x.digest(), digests[8]);
        x.keep(0);
        for (int k = 7; k >= 0; k--) {
            check.due("undo(" + k + ")", x.undo(k), 1);
            x.keep(0);
            x.keep(1);
        }
        HemLine z = Check.by("d1200005 l031 w130");
        check.due("undo(0)", z.undo(0), 0);
        check.due("digest() of none", z.digest(), digests[0]);
        z.flood(4);
        z.move(0, 1);
        z.dyke(1);
        z.tuck(0);
        z.flood(9);
        z.dyke(1);
        z.move(0, 2);
        z.flood(2);
        check.due("digest() of all", z.digest(), digests[8]);
        check.due("undo(5)", z.undo(5), 3);
        check.due("digest() of 5", z.digest(), digests[5]);
        check.due("count(3)", z.count(3), 4);
        check.due("undo(2)", z.undo(2), 3);
        check.due("digest() of 2", z.digest(), digests[2]);
        check.due("undo(0)", z.undo(0), 2);
        check.due("digest() of 0", z.digest(), digests[0]);
    }

    private static void undoRefused() {
        HemLine none = new HemLine();
        check.due("undo(0) of nobody", none.undo(0), 0);
        check.refused(none, "undo(1) of nobody", y -> y.undo(1), HemLine.BAD);
        HemLine x = Check.by("d0000000 w010");
        x.flood(1);
        for (int n : new int[] {-1, 2, LEAST, MOST}) {
            check.refused(x, "undo(" + n + ")", y -> y.undo(n), HemLine.BAD);
        }
        x.lots(5, 77);
        check.due("undo(1) of lots", x.undo(1), 5);
        x.woman(0, 1);
        check.due("asked()", x.asked(), 0);
    }

    private static void keepAndOn() {
        HemLine x = Check.by("d1200005 l031 w130");
        check.due("keep(2)", x.keep(2), 0);
        x.flood(7);
        x.move(0, 4);
        x.tuck(0);
        check.due("keep(0)", x.keep(0), 3);
        long digest = digestWithoutKept(x);
        x.dyke(0);
        x.flood(3);
        check.due("keep(1)", x.keep(1), 5);
        check.due("count(10)", x.count(10), 3);
        check.due("on(0)", x.on(0), 3);
        check.due("digest() as kept", digestWithoutKept(x), digest);
        check.due("hem(0, 0)", x.hem(0, 0), 2);
        check.due("undo(1)", x.undo(1), 2);
        x.woman(0, 1);
        check.due("asked() of PLACE", x.asked(), 0);
        x.flood(20);
        check.due("on(0) again", x.on(0), 3);
        check.due("digest() as kept", digestWithoutKept(x), digest);
        check.due("on(2)", x.on(2), 0);
        check.due("count(1)", x.count(1), 0);
        check.due("keep(0) anew", x.keep(0), 0);
        check.due("on(1)", x.on(1), 5);
        check.due("count(3)", x.count(3), 4);
        check.due("hem(0, 1)", x.hem(0, 1), 1);
        check.due("on(0) is anew", x.on(0), 0);
        check.due("count(10) stays", x.count(10), 3);
    }

    /** A kept DELTA has its own DEEDS, which are undone one by one, whatever was done meanwhile. */
    private static void keptWithDeeds() {
        HemLine x = Check.by("d1200005 l031 w130");
        long[] digests = new long[5];
        digests[0] = digestWithoutKept(x);
        x.flood(7);
        digests[1] = digestWithoutKept(x);
        x.move(1, 4);
        digests[2] = digestWithoutKept(x);
        x.dyke(4);
        digests[3] = digestWithoutKept(x);
        x.tuck(0);
        digests[4] = digestWithoutKept(x);
        x.keep(1);
        x.undo(0);
        x.tuck(1);
        x.tuck(1);
        x.flood(2);
        x.move(0, 3);
        for (int k = 4; k > 0; k--) {
            check.due("on(1)", x.on(1), 4);
            check.due("count(6)", x.count(6), 7);
            check.due("undo(" + k + ")", x.undo(k), 4 - k);
            check.due("digest() of " + k, digestWithoutKept(x), digests[k]);
        }
        check.due("undo(0)", x.undo(0), 1);
        check.due("digest() of 0", digestWithoutKept(x), digests[0]);
    }

    /** What the DELTA alone shows; kept ones are in the digest, too. */
    private static long digestWithoutKept(HemLine x) {
        long h = 0;
        for (int what = 0; what <= 7; what++) {
            h = 31 * h + x.count(what);
        }
        for (int i = 0; i < x.count(0); i++) {
            for (int what = 0; what < 6; what++) {
                x.woman(i, what);
                h = 31 * h + x.asked();
            }
            for (int y = 0; y < x.count(1); y++) {
                h = 31 * h + x.hem(i, y);
            }
        }
        return h;
    }

    private static void keepRefused() {
        HemLine none = new HemLine();
        check.refused(none, "keep(0) of nobody", y -> y.keep(0), HemLine.STATE);
        check.refused(none, "keep(3) of nobody", y -> y.keep(3), HemLine.BAD);
        HemLine x = Check.by("d0000000 w010");
        for (int k : new int[] {-1, 3, LEAST, MOST}) {
            check.refused(x, "keep(" + k + ")", y -> y.keep(k), HemLine.BAD);
        }
    }

    private static void onRefused() {
        HemLine x = Check.by("d0000000 w010");
        x.keep(1);
        x.flood(3);
        check.finding(x, "on(0)", y -> y.on(0), 1);
        check.finding(x, "on(2)", y -> y.on(2), 1);
        for (int k : new int[] {-1, 3, LEAST, MOST}) {
            check.refused(x, "on(" + k + ")", y -> y.on(k), HemLine.BAD);
        }
        check.finding(new HemLine(), "on(0) of nobody", y -> y.on(0), 1);
        check.due("on(1)", x.on(1), 0);
    }
}
