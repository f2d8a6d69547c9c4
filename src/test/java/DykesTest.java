/** Promises 31 to 34: raise, dry, least, duel. */
public final class DykesTest {
    private static final Check check = new Check();
    private static final int LEAST = Integer.MIN_VALUE, MOST = Integer.MAX_VALUE;

    public static void main(String[] args) {
        raise();
        raiseOfLikeWays();
        raiseRefused();
        dry();
        least();
        leastRefused();
        duel();
        duelRefused();
        check.end();
    }

    private static void raises(HemLine x, int n, int f, int wet, int... way) {
        long ground = x.count(4), earth = x.count(3), deeds = x.count(2);
        x.row(5, 40);
        check.due("raise(" + n + ", " + f + ", 5)", x.raise(n, f, 5), wet);
        for (int p = 0; p < 6; p++) {
            check.due("at(5, " + p + ")", x.at(5, p), 1);
            check.due("asked() of " + p, x.asked(), way[p]);
        }
        check.finding(x, "at(5, 6)", y -> y.at(5, 6), 2);
        check.due("count(4) stays", x.count(4), ground);
        check.due("count(3) stays", x.count(3), earth);
        check.due("count(2) stays", x.count(2), deeds);
    }

    private static void raise() {
        HemLine x = Check.by("d0000000 w010 w010 w110 w210");
        raises(x, 0, 5, 20, 0, 0, 0, 0, 0, 0);
        raises(x, 3, 5, 14, 3, 0, 0, 0, 0, 0);
        raises(x, 6, 5, 9, 5, 0, 1, 0, 0, 0);
        raises(x, 6, 2, 0, 2, 2, 2, 0, 0, 0);
        raises(x, 6, 0, 0, 0, 0, 0, 0, 0, 6);
        x.move(0, 2);
        raises(x, 2, 5, 16, 0, 0, 2, 0, 0, 0);
        HemLine high = Check.by("d7990009 w010 w110 w210 w010 w010 w310");
        raises(high, 3, 20, 13 * 3 + 11 + 11 + 20 - 3 * 2 - 1, 2, 0, 0, 1, 0, 0);
        raises(high, 6, 20, 13 * 3 + 11 + 11 + 20 - 3 * 2 - 4, 2, 0, 0, 4, 0, 0);
    }

    private static void raiseOfLikeWays() {
        HemLine x = Check.by("d0000000 w010 w110 w510");
        raises(x, 4, 9, 23, 0, 0, 0, 0, 0, 4);
        raises(x, 4, 3, 5, 0, 1, 0, 0, 0, 3);
        raises(x, 4, 1, 0, 1, 1, 0, 0, 0, 2);
        HemLine full = Check.by("d3999990 w010 w510");
        raises(full, 6, 20, 28 - 6, 6, 0, 0, 0, 0, 0);
        raises(full, 6, 2, 0, 6, 0, 0, 0, 0, 0);
        HemLine nobody = Check.by("d9999890 w010");
        raises(nobody, 1, 20, 11, 0, 0, 0, 0, 1, 0);
    }

    private static void raiseRefused() {
        HemLine none = new HemLine();
        check.refused(none, "raise(0, 0, 0) of nobody", y -> y.raise(0, 0, 0), HemLine.STATE);
        check.refused(none, "raise(0, 0, 6) of nobody", y -> y.raise(0, 0, 6), HemLine.BAD);
        HemLine x = Check.by("d9999870 w010");
        Check.fill(x, 1, 4, 5);
        check.refused(x, "raise(4, 0, 1)", y -> y.raise(4, 0, 1), HemLine.STATE);
        check.due("raise(3, 20, 0)", x.raise(3, 20, 0), 11);
        int[][] bad = {{-1, 0, 1}, {7, 0, 1}, {0, -1, 1}, {0, 21, 1}, {0, 0, -1}, {0, 0, 6}, {MOST, 0, 1}, {LEAST, 0, 1},
            {0, MOST, 1}, {0, LEAST, 1}, {0, 0, MOST}, {0, 0, LEAST}, {6, 0, 6}};
        for (int[] b : bad) {
            check.refused(x, "raise(" + b[0] + ", " + b[1] + ", " + b[2] + ")", y -> y.raise(b[0], b[1], b[2]),
                HemLine.BAD);
        }
    }

    private static void dry() {
        check.refused(new HemLine(), "dry() of nobody", y -> y.dry(), HemLine.STATE);
        HemLine x = Check.by("d4809991 w010 w110 w310");
        check.due("dry()", x.dry(), 4);
        x.dyke(0);
        check.due("dry()", x.dry(), 5);
        x.move(0, 1);
        check.due("dry()", x.dry(), 8);
        x.move(1, 4);
        x.move(0, 5);
        check.due("dry()", x.dry(), 9);
        check.due("flood(9)", x.flood(9), 0);
        check.due("flood(10)", x.flood(10), 3);
        x.move(2, 2);
        check.due("dry()", x.dry(), 0);
    }

    private static void least() {
        HemLine x = Check.by("d3800000 w090 w110");
        int[][] due = {{0, 0, 0, 0}, {0, 3, 0, 0}, {0, 4, 0, 1}, {0, 4, 1, 0}, {0, 9, 0, 6}, {0, 10, 0, HemLine.NONE},
            {0, 10, 1, 6}, {0, 20, 20, 0}, {0, 20, 11, 6}, {0, 20, 10, HemLine.NONE}, {1, 20, 11, 1}, {1, 20, 12, 0},
            {1, 9, 0, 1}, {1, 8, 0, 0}, {1, 10, 0, HemLine.NONE}};
        for (int[] d : due) {
            check.due("least(" + d[0] + ", " + d[1] + ", " + d[2] + ")", x.least(d[0], d[1], d[2]), d[3]);
        }
        HemLine top = Check.by("d9000000 w090");
        check.due("least(0, 9, 0)", top.least(0, 9, 0), 0);
        check.due("least(0, 10, 0)", top.least(0, 10, 0), HemLine.NONE);
        check.due("count(3)", top.count(3), 0);
    }

    private static void leastRefused() {
        HemLine x = Check.by("d0000000 w010 w010");
        int[][] bad = {{-1, 0, 0}, {2, 0, 0}, {0, -1, 0}, {0, 21, 0}, {0, 0, -1}, {0, 0, 21}, {MOST, 0, 0},
            {0, MOST, 0}, {0, 0, MOST}, {LEAST, 0, 0}, {0, LEAST, 0}, {0, 0, LEAST}};
        for (int[] b : bad) {
            check.refused(x, "least(" + b[0] + ", " + b[1] + ", " + b[2] + ")", y -> y.least(b[0], b[1], b[2]),
                HemLine.BAD);
        }
        check.refused(new HemLine(), "least(0, 0, 0) of nobody", y -> y.least(0, 0, 0), HemLine.BAD);
    }

    private static void duels(HemLine x, int n, int f, int want) {
        long digest = x.digest();
        check.due("duel(" + n + ", " + f + ")", x.duel(n, f), want);
        check.due("digest() stays", x.digest(), digest);
    }

    private static void duel() {
        // Each live alone: a dyke of one's own is worth 1 to both, but the water is 1 more then.
        HemLine one = Check.by("d0000000 w010");
        duels(one, 0, 5, 95);
        // none: 5 WET; a dyke at her PLACE: 6 less 1
        duels(one, 1, 5, 95);
        // the second bank raises for the water's sake alone: 6 WET
        duels(one, 2, 5, 94);
        // at 20 the water comes no higher: only the first bank's dykes tell
        duels(one, 1, 20, 81);
        duels(one, 6, 20, 83);
        HemLine two = Check.by("d0000000 w410");
        duels(two, 0, 5, 105);
        // the first bank's dyke makes her more WET by the water
        duels(two, 1, 5, 106);
        duels(two, 1, 20, 120);
        duels(two, 2, 20, 119);
        duels(two, 6, 20, 117);
        HemLine full = Check.by("d9999990 w010 w010 w310");
        duels(full, 0, 20, 100 + 11 - 22);
        duels(full, 6, 20, 100 + 11 - 22);
        // who has no room of its own can't raise the other bank's GROUND to bring the water
        duels(Check.by("d9990000 w410"), 1, 5, 105);
        duels(Check.by("d0009990 w010"), 2, 5, 95);
        // the water comes up to who is dry, and no deeper than none
        HemLine high = Check.by("d5000000 w010 w310");
        duels(high, 0, 3, 103);
        duels(high, 0, 0, 100);
        duels(high, 1, 3, 104);
        HemLine both = Check.by("d8990990 w010 w010 w310");
        // first: PLACE 0 or 1, 2 (full) or none; second: PLACE 3 or none
        duels(both, 1, 20, 100 + 20 - 22);
        duels(both, 2, 20, 100 + 19 - 22);
        duels(both, 3, 20, 100 + 19 - 22);
    }

    private static void duelRefused() {
        HemLine none = new HemLine();
        check.refused(none, "duel(0, 0) of nobody", y -> y.duel(0, 0), HemLine.STATE);
        check.refused(none, "duel(7, 0) of nobody", y -> y.duel(7, 0), HemLine.BAD);
        HemLine x = Check.by("d0000000 w010");
        int[][] bad = {{-1, 0}, {7, 0}, {0, -1}, {0, 21}, {MOST, 0}, {LEAST, 0}, {0, MOST}, {0, LEAST}};
        for (int[] b : bad) {
            check.refused(x, "duel(" + b[0] + ", " + b[1] + ")", y -> y.duel(b[0], b[1]), HemLine.BAD);
        }
    }
}
