import java.math.BigInteger;

/** Boundaries of promises 35 to 37: odds, mid, lots. */
public final class ChancesBoundsTest extends Bounds {
    private static final String ONE = "d0000000w010";
    private static final String TWO = "d0000000w010w010";

    public static void main(String[] args) {
        odds();
        oddsInLowestTerms();
        oddsRefused();
        mid();
        midRefused();
        lotsOfFloods();
        lotsOfMoves();
        lotsOfMany();
        lotsOfSeeds();
        lotsRefused();
        end();
    }

    private static void parts(String promise, String boundary, Made made, Call call, long upper, long lower) {
        test(promise, boundary, () -> {
            HemLine x = made.make();
            x.woman(0, 2);
            int asked = x.asked();
            long digest = x.digest();
            is("answer", call.on(x), 1);
            is("upper()", x.upper(), upper);
            is("lower()", x.lower(), lower);
            is("asked()", x.asked(), asked);
            is("digest()", x.digest(), digest);
        });
    }

    // ---- odds

    private static void oddsAre(String boundary, Made made, int v, long upper, long lower) {
        parts("35 odds", boundary, made, x -> x.odds(v), upper, lower);
    }

    private static void odds() {
        oddsAre("0 WOMEN or more: always", by(ONE, floods(0)), 0, 1, 1);
        oddsAre("1 or more where one is WET", by(ONE, floods(1)), 1, 1, 1);
        oddsAre("1 or more where none is WET: 0 by 1", by(ONE, floods(0)), 1, 0, 1);
        oddsAre("2 or more of one WOMAN: 0 by 1", by(ONE, floods(20)), 2, 0, 1);
        oddsAre("6 or more of one WOMAN: 0 by 1", by(ONE, floods(20, 20)), 6, 0, 1);
        oddsAre("5 or more where six are WET", by(SIX, floods(6, 5)), 5, 1, 1);
        oddsAre("6 or more where six are WET in one of two", by(SIX, floods(6, 5)), 6, 1, 2);
        oddsAre("6 are the most, all in each", by(SIX, floods(6, 20)), 6, 1, 1);
        oddsAre("just up to the GROUND is not WET", by("d5000000w010", floods(5, 5)), 1, 0, 1);
        oddsAre("1 above the GROUND is WET", by("d5000000w010", floods(6, 5)), 1, 1, 2);
        oddsAre("of eight floods one", by(ONE, floods(0, 0, 0, 0, 0, 0, 0, 1)), 1, 1, 8);
        oddsAre("of eight floods the first one", by(ONE, floods(1, 0, 0, 0, 0, 0, 0, 0)), 1, 1, 8);
        oddsAre("of eight floods seven", by(ONE, floods(1, 1, 1, 1, 0, 1, 1, 1)), 1, 7, 8);
        oddsAre("of eight floods all", by(ONE, floods(1, 1, 1, 1, 1, 1, 1, 1)), 1, 1, 1);
        oddsAre("WOMEN as they live now", by("d0900000w010", floods(5), x -> x.move(0, 1)), 1, 0, 1);
        oddsAre("the GROUND as it is now", by("d4000001w010", floods(5), x -> x.dyke(0)), 1, 0, 1);
        oddsAre("a flood that was undone does not come again", by(ONE, floods(0, 5), x -> x.undo(1)), 1, 0, 1);
        oddsAre("like floods are as many", by(ONE, floods(0, 5, 5)), 1, 2, 3);
    }

    private static void oddsInLowestTerms() {
        int[][] due = {{1, 2, 1, 2}, {2, 4, 1, 2}, {3, 6, 1, 2}, {4, 8, 1, 2}, {2, 6, 1, 3}, {4, 6, 2, 3}, {6, 8, 3, 4},
            {2, 8, 1, 4}, {3, 8, 3, 8}, {5, 8, 5, 8}, {5, 7, 5, 7}, {2, 5, 2, 5}, {6, 6, 1, 1}, {0, 8, 0, 1},
            {8, 8, 1, 1}, {7, 7, 1, 1}, {1, 7, 1, 7}};
        for (int[] d : due) {
            int[] heights = new int[d[1]];
            for (int k = 0; k < d[0]; k++) {
                heights[k] = 1;
            }
            oddsAre(d[0] + " of " + d[1] + " in lowest terms", by(ONE, floods(heights)), 1, d[2], d[3]);
        }
    }

    private static void oddsRefused() {
        String p = "35 odds";
        bad(p, "a number of WOMEN", rich(), v -> x -> x.odds(v), -1, 7, LEAST, MOST);
        refused(p, "no WOMEN", bare(fill(0, 5), x -> x.at(0, 0)), x -> x.odds(0), STATE);
        refused(p, "no floods", by(ONE), x -> x.odds(0), STATE);
        refused(p, "no floods any more", by(ONE, floods(3), x -> x.odds(1), x -> x.undo(0)), x -> x.odds(0), STATE);
        refused(p, "DEEDS that are no floods", by(ONE, moves(3)), x -> x.odds(0), STATE);
        refused(p, "BAD is ahead of no WOMEN", bare(), x -> x.odds(7), BAD);
        refused(p, "BAD is ahead of no floods", by(ONE), x -> x.odds(-1), BAD);
    }

    // ---- mid

    private static void midIs(String boundary, Made made, long upper, long lower) {
        parts("36 mid", boundary, made, x -> x.mid(), upper, lower);
    }

    private static void mid() {
        midIs("nobody is WET: 0 by 1", by(ONE, floods(0)), 0, 1);
        midIs("nobody is WET by eight floods: 0 by 1", by(ONE, floods(new int[8])), 0, 1);
        midIs("one by 1", by(ONE, floods(1)), 1, 1);
        midIs("one by 1 of eight floods", by(ONE, floods(0, 0, 0, 0, 0, 0, 0, 1)), 1, 8);
        midIs("the most: six by 20, eight times", by("d0000000w010w010w010w010w010w010",
            floods(20, 20, 20, 20, 20, 20, 20, 20)), 120, 1);
        midIs("just up to the GROUND", by("d5000000w010", floods(5)), 0, 1);
        midIs("1 above the GROUND", by("d5000000w010", floods(6)), 1, 1);
        midIs("below the GROUND is not less than none", by("d5000000w010w110", floods(1)), 1, 1);
        midIs("all together", by(SIX, floods(6)), 21, 1);
        midIs("by how WET they are, not by HEMS", by("d0000000b010l013", floods(4)), 8, 1);
        midIs("in lowest terms: 2 by 4", by(TWO, floods(1, 0, 0, 0)), 1, 2);
        midIs("in lowest terms: 12 by 8", by(TWO, floods(6, 0, 0, 0, 0, 0, 0, 0)), 3, 2);
        midIs("in lowest terms: 16 by 8", by(TWO, floods(8, 0, 0, 0, 0, 0, 0, 0)), 2, 1);
        midIs("in lowest terms: 10 by 3", by(TWO, floods(5, 0, 0)), 10, 3);
        midIs("in lowest terms: 7 by 7", by(ONE, floods(7, 0, 0, 0, 0, 0, 0)), 1, 1);
        midIs("in lowest terms: 14 by 6", by(TWO, floods(7, 0, 0, 0, 0, 0)), 7, 3);
        midIs("as they live now", by("d0900000w010", floods(5), x -> x.move(0, 1)), 0, 1);
        midIs("as the GROUND is now", by("d0000001w010", floods(5), x -> x.dyke(0)), 4, 1);
        midIs("a flood that was undone does not come again", by(ONE, floods(5, 7), x -> x.undo(1)), 5, 1);
    }

    private static void midRefused() {
        String p = "36 mid";
        refused(p, "no WOMEN", bare(fill(0, 5), x -> x.at(0, 0)), x -> x.mid(), STATE);
        refused(p, "no floods", by(ONE), x -> x.mid(), STATE);
        refused(p, "no floods any more", by(ONE, floods(3), x -> x.mid(), x -> x.undo(0)), x -> x.mid(), STATE);
    }

    // ---- lots

    /** By the first number of a seed: HEIGHT of a flood. */
    private static void floodIs(String boundary, long number, int f) {
        test("37 lots", boundary, () -> {
            HemLine x = by("d0000000w010w110", floods(13)).make();
            is("answer", x.lots(1, seedOf(number)), 2);
            is("count(6)", x.count(6), f);
            is("count(2)", x.count(2), 2);
            is("hem(0, 1)", x.hem(0, 1), f > 0 ? 1 : 0);
        });
    }

    private static void lotsOfFloods() {
        floodIs("modulo 4 is 0, HEIGHT 0", 4, 0);
        floodIs("modulo 4 is 0, HEIGHT 1", 8, 1);
        floodIs("by 8, cut", 12, 1);
        floodIs("HEIGHT 20 is the last", 160, 20);
        floodIs("HEIGHT 20, cut", 164, 20);
        floodIs("HEIGHT 0 by modulo 21", 168, 0);
        floodIs("HEIGHT 1 by modulo 21", 176, 1);
        floodIs("HEIGHT 20 by modulo 21", 328, 20);
        floodIs("the greatest number that is one of a flood", 2147483644, 2147483644 / 8 % 21);
        String p = "37 lots";
        answers(p, "how many YEARS are past then: 1", by(ONE), x -> x.lots(1, seedOf(4)), 1);
        answers(p, "how many YEARS are past then: 8", by(ONE, floods(new int[7])), x -> x.lots(1, seedOf(4)), 8);
        answers(p, "how many YEARS are past then, where 8 were", by(ONE, floods(new int[8])), x -> x.lots(1, seedOf(4)),
            8);
        answers(p, "less than 8 YEARS are past: 7", by(ONE, floods(new int[7]), x -> x.lots(1, seedOf(80))),
            x -> x.count(6), 10);
        test(p, "8 YEARS are past: she moves", () -> {
            HemLine x = by("d0000000w410w410w410", floods(new int[8])).make();
            is("answer", x.lots(1, seedOf(64 * 3)), 8);
            is("count(2)", x.count(2), 9);
            is("count(6)", x.count(6), 0);
            is("PLACE of 24 % 3", asked(x, y -> y.woman(0, 1)), 3);
            is("PLACE of another one", asked(x, y -> y.woman(1, 1)), 4);
        });
        test(p, "the TUCK, GROUND, PLACE as they are", () -> {
            HemLine x = by("d0000001l090w090", y -> y.tuck(0), y -> y.dyke(0), y -> y.move(1, 3),
                y -> y.lots(1, seedOf(8 * 6))).make();
            is("hem(0, 0)", x.hem(0, 0), 4);
            is("hem(1, 0)", x.hem(1, 0), 6);
        });
    }

    /** By the first number of a seed: who of six, all at PLACE 2, moves to which PLACE. */
    private static void moveIs(String boundary, long number, int who, int place) {
        test("37 lots", boundary, () -> {
            HemLine x = by("d0000000w210w210w210w210w210w210").make();
            is("answer", x.lots(1, seedOf(number)), 0);
            is("count(2)", x.count(2), 1);
            for (int k = 0; k < 6; k++) {
                int i = k;
                is("PLACE of " + i, asked(x, y -> y.woman(i, 1)), i == who ? place : 2);
            }
        });
    }

    private static void lotsOfMoves() {
        moveIs("modulo 4 is 1, WOMAN 0, PLACE 0", 1, 0, 0);
        moveIs("modulo 4 is 2", 2, 0, 0);
        moveIs("modulo 4 is 3", 3, 0, 0);
        moveIs("by 8, cut: WOMAN 0", 7, 0, 0);
        moveIs("by 8: WOMAN 1", 9, 1, 0);
        moveIs("by 8: WOMAN 5", 41, 5, 0);
        moveIs("by 8, cut: WOMAN 5", 47, 5, 0);
        moveIs("WOMAN 0 by modulo 6", 49, 0, 0);
        moveIs("by 64, cut: PLACE 0", 63, 1, 0);
        moveIs("by 64: PLACE 1", 65, 2, 1);
        moveIs("by 64: PLACE 5", 321, 4, 5);
        moveIs("by 64, cut: PLACE 5", 383, 5, 5);
        moveIs("PLACE 0 by modulo 6", 385, 0, 0);
        moveIs("the greatest number", 2147483646, 2147483646 / 8 % 6, 2147483646 / 64 % 6);
        String p = "37 lots";
        test(p, "modulo how many there are: 5", () -> {
            HemLine x = by("d0000000w210w210w210w210w210", y -> y.lots(1, seedOf(41))).make();
            is("PLACE of 5 % 5", asked(x, y -> y.woman(0, 1)), 0);
        });
        test(p, "modulo how many there are: 1", () -> {
            HemLine x = by("d0000000w210", y -> y.lots(1, seedOf(41))).make();
            is("PLACE of 5 % 1", asked(x, y -> y.woman(0, 1)), 0);
        });
        test(p, "a DEED, also if she is there", () -> {
            HemLine x = by("d0000000w010", y -> y.lots(1, seedOf(1))).make();
            is("count(2)", x.count(2), 1);
            is("PLACE", asked(x, y -> y.woman(0, 1)), 0);
            is("undo(0)", x.undo(0), 1);
            is("PLACE as undone", asked(x, y -> y.woman(0, 1)), 0);
        });
        test(p, "a move that is undone", () -> {
            HemLine x = by("d0000000w210", y -> y.lots(1, seedOf(321)), y -> y.undo(0)).make();
            is("PLACE", asked(x, y -> y.woman(0, 1)), 2);
        });
    }

    private static void lotsOfMany() {
        String p = "37 lots";
        answers(p, "1 DEED is the fewest", by(ONE, x -> x.lots(1, 7)), x -> x.count(2), 1);
        answers(p, "20 DEEDS are the most", by(ONE, x -> x.lots(20, 7)), x -> x.count(2), 20);
        answers(p, "20 more: just 40", by(ONE, x -> x.lots(20, 7), x -> x.lots(20, 8)), x -> x.count(2), 40);
        answers(p, "1 more: just 40", by(ONE, moves(39), x -> x.lots(1, seedOf(1))), x -> x.count(2), 40);
        answers(p, "a flood as the 40th DEED", by(ONE, moves(39)), x -> x.lots(1, seedOf(4)), 1);
        test(p, "each number comes from the one ahead", () -> {
            for (int seed : new int[] {1, 48271, 2147483646}) {
                HemLine x = by(SIX).make(), same = by(SIX).make();
                x.lots(20, seed);
                long number = seed;
                for (int k = 0; k < 20; k++) {
                    same.lots(1, (int) number);
                    number = number * 48271 % 2147483647;
                }
                is("count(2)", same.count(2), 20);
                is("digest() by seed " + seed, x.digest(), same.digest());
            }
        });
        test(p, "asked(), upper(), lower(), finding(), kept DELTAS stay", () -> {
            HemLine x = rich().make(), same = rich().make();
            x.lots(9, 5);
            is("asked()", x.asked(), same.asked());
            is("upper()", x.upper(), same.upper());
            is("lower()", x.lower(), same.lower());
            is("finding()", x.finding(), same.finding());
            is("undo(5)", x.undo(5), 9);
            is("digest()", x.digest(), same.digest());
            is("on(1)", x.on(1), 2);
        });
    }

    private static void lotsOfSeeds() {
        String p = "37 lots";
        // 48271: modulo 4 it is 3; 6033 modulo 6 is 3, 754 modulo 6 is 4
        seedMoves("seed 1 is the first", 1, 3, 4);
        // 2147483647 less 48271 is 2147435376: modulo 4 it is 0; 268429422 modulo 21 is 12
        test(p, "seed 2147483646 is the last", () -> {
            HemLine x = by(SIX).make();
            is("answer", x.lots(1, 2147483646), 1);
            is("count(6)", x.count(6), 268429422 % 21);
        });
        test(p, "48271 times a seed is more than an int", () -> {
            for (int seed : new int[] {44489, 65536, 1 << 30, 2147483645}) {
                HemLine x = by("d0000000w010").make();
                long number = numberBy(seed);
                boolean flood = number % 4 == 0;
                is("answer of " + seed, x.lots(1, seed), flood ? 1 : 0);
                is("HEIGHT or PLACE of " + seed, flood ? x.count(6) : asked(x, y -> y.woman(0, 1)),
                    flood ? number / 8 % 21 : number / 64 % 6);
            }
        });
    }

    private static long numberBy(int seed) {
        return BigInteger.valueOf(seed).multiply(BigInteger.valueOf(48271)).mod(BigInteger.valueOf(2147483647))
            .longValueExact();
    }

    private static void seedMoves(String boundary, int seed, int who, int place) {
        test("37 lots", boundary, () -> {
            HemLine x = by("d0000000w210w210w210w210w210w210", y -> y.lots(1, seed)).make();
            is("count(1)", x.count(1), 0);
            is("PLACE", asked(x, y -> y.woman(who, 1)), place);
        });
    }

    private static void lotsRefused() {
        String p = "37 lots";
        bad(p, "a number of DEEDS", rich(), n -> x -> x.lots(n, 1), -1, 0, 21, LEAST, MOST);
        bad(p, "seed", rich(), seed -> x -> x.lots(1, seed), LEAST, -1, 0, MOST);
        refused(p, "no WOMEN", bare(fill(0, 5), x -> x.at(0, 0)), x -> x.lots(1, 1), STATE);
        refused(p, "1 more than 40", by(ONE, moves(40)), x -> x.lots(1, 1), FULL);
        refused(p, "2 more than 39", by(ONE, moves(39)), x -> x.lots(2, 1), FULL);
        refused(p, "20 more than 21", by(ONE, moves(21)), x -> x.lots(20, 1), FULL);
        refused(p, "a flood where 40 DEEDS are done", by(ONE, moves(40)), x -> x.lots(1, seedOf(4)), FULL);
        refused(p, "BAD of a number is ahead of no WOMEN", bare(), x -> x.lots(0, 1), BAD);
        refused(p, "BAD of a seed is ahead of no WOMEN", bare(), x -> x.lots(1, 0), BAD);
        refused(p, "BAD of a number is ahead of 40 DEEDS", by(ONE, moves(40)), x -> x.lots(21, 1), BAD);
        refused(p, "BAD of a seed is ahead of 40 DEEDS", by(ONE, moves(40)), x -> x.lots(1, MOST), BAD);
    }
}
