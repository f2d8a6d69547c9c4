/** Promises 35 to 37: odds, mid, lots. */
public final class ChancesTest {
    private static final Check check = new Check();
    private static final int LEAST = Integer.MIN_VALUE, MOST = Integer.MAX_VALUE;

    public static void main(String[] args) {
        odds();
        oddsRefused();
        mid();
        midRefused();
        lots();
        lotsOfOne();
        lotsRefused();
        check.end();
    }

    private static void told(HemLine x, String what, int answer, long upper, long lower) {
        check.due(what, answer, 1);
        check.due(what + " upper()", x.upper(), upper);
        check.due(what + " lower()", x.lower(), lower);
    }

    private static void odds() {
        HemLine x = Check.by("d0249009 w010 w110 w210 w310");
        for (int f : new int[] {0, 1, 3, 4}) {
            x.flood(f);
        }
        told(x, "odds(0)", x.odds(0), 1, 1);
        told(x, "odds(1)", x.odds(1), 3, 4);
        told(x, "odds(2)", x.odds(2), 1, 2);
        told(x, "odds(3)", x.odds(3), 0, 1);
        told(x, "odds(6)", x.odds(6), 0, 1);
        x.flood(10);
        x.flood(20);
        told(x, "odds(2) of 6", x.odds(2), 2, 3);
        told(x, "odds(4) of 6", x.odds(4), 1, 3);
        told(x, "odds(5) of 6", x.odds(5), 0, 1);
        x.dyke(0);
        told(x, "odds(1) by a dyke", x.odds(1), 2, 3);
        x.move(3, 0);
        told(x, "odds(2) by a move", x.odds(2), 2, 3);
        told(x, "odds(3) by a move", x.odds(3), 2, 3);
        HemLine one = Check.by("d3000000 w010");
        one.flood(4);
        told(one, "odds(1) of one WOMAN", one.odds(1), 1, 1);
        x.undo(1);
        told(x, "odds(0) of 1", x.odds(0), 1, 1);
        told(x, "odds(1) of 1", x.odds(1), 0, 1);
    }

    private static void oddsRefused() {
        HemLine none = new HemLine();
        check.refused(none, "odds(0) of nobody", y -> y.odds(0), HemLine.STATE);
        check.refused(none, "odds(7) of nobody", y -> y.odds(7), HemLine.BAD);
        HemLine x = Check.by("d0000000 w010");
        check.refused(x, "odds(0) of no flood", y -> y.odds(0), HemLine.STATE);
        x.flood(1);
        x.odds(1);
        for (int v : new int[] {-1, 7, LEAST, MOST}) {
            check.refused(x, "odds(" + v + ")", y -> y.odds(v), HemLine.BAD);
        }
    }

    private static void mid() {
        HemLine x = Check.by("d0200009 w010 w190");
        x.flood(0);
        told(x, "mid() of 0", x.mid(), 0, 1);
        x.flood(3);
        told(x, "mid() of 0, 3", x.mid(), 2, 1);
        x.flood(4);
        told(x, "mid() of 0, 3, 4", x.mid(), 10, 3);
        x.flood(20);
        told(x, "mid() of 0, 3, 4, 20", x.mid(), 12, 1);
        x.dyke(0);
        told(x, "mid() by a dyke", x.mid(), 45, 4);
        x.move(1, 0);
        told(x, "mid() by a move", x.mid(), 12, 1);
        x.undo(2);
        told(x, "mid() of 0, 3 as undone", x.mid(), 2, 1);
        Check.write(x, 1, "d0000000 w010");
        x.delta(1);
        x.flood(7);
        told(x, "mid() of one WOMAN where two were", x.mid(), 7, 1);
    }

    private static void midRefused() {
        check.refused(new HemLine(), "mid() of nobody", y -> y.mid(), HemLine.STATE);
        HemLine x = Check.by("d0000000 w010");
        check.refused(x, "mid() of no flood", y -> y.mid(), HemLine.STATE);
        x.flood(1);
        x.mid();
        x.undo(0);
        check.refused(x, "mid() of a flood undone", y -> y.mid(), HemLine.STATE);
    }

    /** The same DEEDS one by one, by numbers worked out here. */
    private static void lots() {
        for (int seed : new int[] {1, 2, 77, 31337, 2147483646, 1000000007}) {
            HemLine x = Check.by("d1230450 w010 b120 l231 v340 g450 a562");
            HemLine same = Check.by("d1230450 w010 b120 l231 v340 g450 a562");
            long number = seed;
            int[] places = {0, 1, 2, 3, 4, 5};
            java.util.List<Integer> floods = new java.util.ArrayList<>();
            for (int k = 0; k < 40; k++) {
                number = number * 48271L % 2147483647L;
                if (number % 4 == 0 && floods.size() < 8) {
                    floods.add((int) (number / 8 % 21));
                } else {
                    places[(int) (number / 8 % 6)] = (int) (number / 64 % 6);
                }
                if (k < 20) {
                    same.lots(1, (int) (k == 0 ? seed : before(seed, k)));
                    check.due("count(2) by one", same.count(2), k + 1);
                }
                if (k == 19) {
                    check.due("lots(20, " + seed + ")", x.lots(20, seed), floods.size());
                    check.due("digest() one by one", same.digest(), x.digest());
                    check.due("lots on", x.lots(20, (int) number), x.count(1));
                }
            }
            check.due("count(1)", x.count(1), floods.size());
            check.due("count(2)", x.count(2), 40);
            if (!floods.isEmpty()) {
                check.due("count(6)", x.count(6), floods.get(floods.size() - 1));
            }
            for (int i = 0; i < 6; i++) {
                x.woman(i, 1);
                check.due("PLACE of " + i, x.asked(), places[i]);
            }
        }
    }

    private static long before(int seed, int times) {
        long number = seed;
        for (int k = 0; k < times; k++) {
            number = number * 48271L % 2147483647L;
        }
        return number;
    }

    /** By seed 1 the first number is 48271: modulo 4 it is 3; WOMAN 48271 / 8 = 6033, PLACE 48271 / 64 = 754. */
    private static void lotsOfOne() {
        HemLine x = Check.by("d0000000 w010 w410");
        check.due("lots(1, 1)", x.lots(1, 1), 0);
        x.woman(1, 1);
        check.due("PLACE of 6033 % 2", x.asked(), 4);
        check.due("a DEED, also where she is", x.count(2), 1);
        x.undo(0);
        x.move(1, 2);
        x.lots(1, 1);
        x.woman(1, 1);
        check.due("PLACE 754 % 6", x.asked(), 4);
        x.undo(1);
        x.woman(1, 1);
        check.due("PLACE as undone", x.asked(), 2);
        check.due("asked() is told by woman() alone", x.asked(), 2);
    }

    private static void lotsRefused() {
        HemLine none = new HemLine();
        check.refused(none, "lots(1, 1) of nobody", y -> y.lots(1, 1), HemLine.STATE);
        check.refused(none, "lots(0, 1) of nobody", y -> y.lots(0, 1), HemLine.BAD);
        HemLine x = Check.by("d0000000 w010 w410");
        int[][] bad = {{0, 1}, {21, 1}, {1, 0}, {1, -1}, {1, MOST}, {1, LEAST}, {LEAST, 1}, {MOST, 1}};
        for (int[] b : bad) {
            check.refused(x, "lots(" + b[0] + ", " + b[1] + ")", y -> y.lots(b[0], b[1]), HemLine.BAD);
        }
        x.lots(20, MOST - 1);
        x.lots(19, 5);
        check.refused(x, "lots(2, 1) with 39 deeds", y -> y.lots(2, 1), HemLine.FULL);
        check.refused(x, "lots(21, 1) with 39 deeds", y -> y.lots(21, 1), HemLine.BAD);
        x.lots(1, 1);
        check.due("count(2)", x.count(2), 40);
        check.refused(x, "lots(1, 1) with 40 deeds", y -> y.lots(1, 1), HemLine.FULL);
    }
}
