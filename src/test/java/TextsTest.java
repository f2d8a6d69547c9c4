/** Promises 8 to 11: text, put, fault, delta. */
public final class TextsTest {
    private static final Check check = new Check();
    private static final int LEAST = Integer.MIN_VALUE, MOST = Integer.MAX_VALUE;
    private static final String LAND = "d0123456";

    public static void main(String[] args) {
        text();
        put();
        noFaults();
        faults();
        everySign();
        faultRefused();
        delta();
        deltaAnew();
        deltaRefused();
        check.end();
    }

    private static void text() {
        HemLine x = new HemLine();
        check.due("text(0, 0)", x.text(0, 0), 0);
        check.due("text(3, 60)", x.text(3, 60), 60);
        check.due("count(9)", x.count(9), 2);
        check.due("put(3, 59, 1)", x.put(3, 59, 1), 1032);
        check.refused(x, "text(3, 61)", y -> y.text(3, 61), HemLine.BAD);
        check.refused(x, "text(-1, -1)", y -> y.text(-1, -1), HemLine.BAD);
        check.refused(x, "text(4, -1)", y -> y.text(4, -1), HemLine.BAD);
        check.refused(x, "text(4, 1)", y -> y.text(4, 1), HemLine.BAD);
        check.refused(x, "text(0, MOST)", y -> y.text(0, MOST), HemLine.BAD);
        check.finding(x, "text(3, -1)", y -> y.text(3, -1), 5);
        check.finding(x, "text(3, LEAST)", y -> y.text(3, LEAST), 5);
        check.due("put(3, 59, 2)", x.put(3, 59, 2), 1001);
        check.due("text(3, 60) anew", x.text(3, 60), 60);
        check.due("put(3, 59, 3)", x.put(3, 59, 3), 1032);
    }

    private static void put() {
        HemLine x = new HemLine();
        x.text(1, 2);
        int[] values = {127, 128, -128, -129, 255, 256, 300, -1, LEAST, MOST, 0};
        int[] bytes = {127, -128, -128, 127, -1, 0, 44, -1, 0, -1, 0};
        int was = 32;
        for (int k = 0; k < values.length; k++) {
            check.due("put(1, 1, " + values[k] + ")", x.put(1, 1, values[k]), 1000 + was);
            was = bytes[k];
        }
        check.due("put(1, 1, 1)", x.put(1, 1, 1), 1000);
        check.due("put(1, 0, 1)", x.put(1, 0, 1), 1032);
        check.due("asked()", x.asked(), 0);
        check.refused(x, "put(4, 0, 1)", y -> y.put(4, 0, 1), HemLine.BAD);
        check.refused(x, "put(-1, -1, 1)", y -> y.put(-1, -1, 1), HemLine.BAD);
        check.finding(x, "put(0, -1, 1)", y -> y.put(0, -1, 1), 1);
        for (int i : new int[] {-1, 2, LEAST, MOST}) {
            check.finding(x, "put(1, " + i + ", 1)", y -> y.put(1, i, 1), 2);
        }
    }

    private static void faultIs(String signs, int want) {
        HemLine x = new HemLine();
        Check.write(x, 2, signs);
        check.due("fault of '" + signs + "'", x.fault(2), want);
        if (want != HemLine.NONE) {
            check.refused(x, "delta of '" + signs + "'", y -> y.delta(2), HemLine.STATE);
        } else {
            check.due("delta of '" + signs + "'", x.delta(2) > 0 ? 1 : 0, 1);
        }
    }

    private static void noFaults() {
        faultIs(LAND + "w053", HemLine.NONE);
        faultIs("   " + LAND + "   w053   ", HemLine.NONE);
        faultIs("d9999999w010b593l510v090g333a252", HemLine.NONE);
        faultIs("d0000000 w010 w010 w010 w010 w010 w010", HemLine.NONE);
        faultIs("  d0000000  w010  w010  w010  w010  w010  w010              ", HemLine.NONE);
        faultIs("                                                d0000000w010", HemLine.NONE);
    }

    private static void faults() {
        faultIs("", 0);
        faultIs("   ", 3);
        faultIs(" ".repeat(60), 60);
        faultIs("x", 0);
        faultIs("  D0123456w053", 2);
        faultIs("w053", 0);
        faultIs("d", 1);
        faultIs(LAND.substring(0, 7), 7);
        faultIs(LAND, 8);
        faultIs(LAND + "    ", 12);
        faultIs("d 0123456w053", 1);
        faultIs("d012345 6w053", 7);
        faultIs("d01234567w053", 8);
        faultIs(LAND + LAND + "w053", 8);
        faultIs(LAND + "w", 9);
        faultIs(LAND + "w0", 10);
        faultIs(LAND + "w05", 11);
        faultIs(LAND + " w05", 12);
        faultIs(LAND + "w 053", 9);
        faultIs(LAND + "w0 53", 10);
        faultIs(LAND + "w05 3", 11);
        faultIs(LAND + "w653", 9);
        faultIs(LAND + "w003", 10);
        faultIs(LAND + "w054", 11);
        faultIs(LAND + "w0531", 12);
        faultIs(LAND + "w053 x053", 13);
        faultIs(LAND + "w053 b05", 16);
        faultIs(LAND + "w010w010w010w010w010w010w010", 32);
        faultIs(LAND + "w010w010w010w010w010w010  w010", 34);
        faultIs(LAND + "w010w010w010w010w010w010 x", 33);
        faultIs(LAND + "w010w010w010w010w010w010w", 32);
    }

    /** At each place of a TEXT each byte: it goes on just by those that are told. */
    private static void everySign() {
        String[] told = {"d", "0123456789", "0123456789", "0123456789", "0123456789", "0123456789", "0123456789",
            "0123456789", " wblvga", "012345", "123456789", "0123"};
        for (int place = 0; place < told.length; place++) {
            for (int sign = -128; sign < 128; sign++) {
                if (place == 0 && sign == ' ' || place == 8 && sign == ' ') {
                    continue;
                }
                HemLine x = new HemLine();
                Check.write(x, 0, LAND + "w053");
                x.put(0, place, sign);
                boolean well = sign >= 0 && told[place].indexOf((char) sign) >= 0;
                check.due("fault with " + sign + " at " + place, x.fault(0), well ? HemLine.NONE : place);
            }
        }
    }

    private static void faultRefused() {
        HemLine x = new HemLine();
        Check.write(x, 3, LAND + "w053");
        check.refused(x, "fault(4)", y -> y.fault(4), HemLine.BAD);
        check.refused(x, "fault(-1)", y -> y.fault(-1), HemLine.BAD);
        check.finding(x, "fault(2)", y -> y.fault(2), 1);
        long digest = x.digest();
        check.due("fault(3)", x.fault(3), HemLine.NONE);
        check.due("digest() behind fault()", x.digest(), digest);
        check.due("count(0) behind fault()", x.count(0), 0);
    }

    private static void womanIs(HemLine x, int i, int... facts) {
        for (int what = 0; what < facts.length; what++) {
            check.due("woman(" + i + ", " + what + ")", x.woman(i, what), 1);
            check.due("asked()", x.asked(), facts[what]);
        }
    }

    private static void delta() {
        HemLine x = new HemLine();
        Check.write(x, 3, " d9012347 w010 b121 l232  v343g450a593 ");
        check.due("delta(3)", x.delta(3), 6);
        womanIs(x, 0, 0, 0, 1, 0, 0, 0);
        womanIs(x, 1, 1, 1, 2, 1, 0, 0);
        womanIs(x, 2, 2, 2, 3, 2, 0, 0);
        womanIs(x, 3, 3, 3, 4, 3, 0, 0);
        womanIs(x, 4, 4, 4, 5, 0, 0, 0);
        womanIs(x, 5, 5, 5, 9, 3, 0, 0);
        int[] counts = {6, 0, 0, 7, 19, 9, 0, 2, 0, 1, 0};
        for (int what = 0; what < counts.length; what++) {
            check.due("count(" + what + ")", x.count(what), counts[what]);
        }
        int[] ground = {9, 0, 1, 2, 3, 4};
        for (int i = 0; i < 6; i++) {
            check.due("least(" + i + ", 9, 0)", x.least(i, 9, 0), 9 - ground[i]);
        }
    }

    private static void deltaAnew() {
        HemLine x = Check.by("d0000009w010w010");
        x.flood(3);
        x.dyke(0);
        x.tuck(0);
        x.keep(0);
        x.keep(2);
        x.odds(0);
        x.woman(0, 2);
        Check.write(x, 1, "d1111111b593");
        check.due("delta(1)", x.delta(1), 1);
        int[] counts = {1, 0, 0, 1, 6, 3, 0, 1, 0, 2, 0};
        for (int what = 0; what < counts.length; what++) {
            check.due("count(" + what + ") anew", x.count(what), counts[what]);
        }
        womanIs(x, 0, 1, 5, 9, 3, 0, 0);
        x.woman(0, 2);
        check.finding(x, "on(0)", y -> y.on(0), 1);
        check.finding(x, "on(2)", y -> y.on(2), 1);
        check.due("upper() stays", x.upper(), 1);
        check.due("asked() stays", x.asked(), 9);
    }

    private static void deltaRefused() {
        HemLine x = Check.by("d0000009w010w010");
        x.flood(5);
        x.keep(1);
        Check.write(x, 2, "d1111111b593b594");
        check.refused(x, "delta(-1)", y -> y.delta(-1), HemLine.BAD);
        check.refused(x, "delta(4)", y -> y.delta(4), HemLine.BAD);
        check.finding(x, "delta(3)", y -> y.delta(3), 1);
        check.refused(x, "delta(2)", y -> y.delta(2), HemLine.STATE);
        check.due("on(1)", x.on(1), 1);
        check.due("count(0)", x.count(0), 2);
    }
}
