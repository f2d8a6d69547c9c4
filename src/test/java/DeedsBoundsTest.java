/** Boundaries of promises 16 to 22: flood, move, dyke, tuck, undo, keep, on. */
public final class DeedsBoundsTest extends Bounds {
    private static final int[] NO_HEIGHTS = {-1, 21, LEAST, MOST};
    private static final int[] NO_PLACES = {-1, 6, LEAST, MOST};
    private static final int[] NO_KEPT = {-1, 3, LEAST, MOST};
    private static final String ONE = "d0000000w010";

    public static void main(String[] args) {
        flood();
        floodRefused();
        move();
        moveRefused();
        dyke();
        dykeRefused();
        tuck();
        tuckRefused();
        undo();
        undoEach();
        undoRefused();
        keep();
        on();
        onAndBack();
        keepRefused();
        end();
    }

    /** What a DEED leaves alone. */
    private static void stays(String p, Call deed) {
        test(p, "asked(), upper(), lower(), finding(), ROWS, TEXTS, kept DELTAS stay", () -> {
            HemLine x = rich().make(), same = rich().make();
            deed.on(x);
            is("asked()", x.asked(), same.asked());
            is("upper()", x.upper(), same.upper());
            is("lower()", x.lower(), same.lower());
            is("finding()", x.finding(), same.finding());
            x.undo(0);
            same.undo(0);
            is("digest() of ROWS, TEXTS, kept ones", x.digest(), same.digest());
            for (int k = 0; k < 2; k++) {
                is("on(" + k + ")", x.on(k), same.on(k));
                is("digest() of the kept one", x.digest(), same.digest());
            }
        });
    }

    // ---- flood

    private static void flood() {
        String p = "16 flood";
        answers(p, "HEIGHT 0 is the first", by(ONE), x -> x.flood(0), 0);
        answers(p, "HEIGHT 20 is the last", by(ONE), x -> x.flood(20), 1);
        answers(p, "just up to the GROUND nobody is WET", by("d5000000w010"), x -> x.flood(5), 0);
        answers(p, "1 above the GROUND she is WET", by("d5000000w010"), x -> x.flood(6), 1);
        answers(p, "just up to GROUND 9", by("d9000000w010"), x -> x.flood(9), 0);
        answers(p, "1 above GROUND 9", by("d9000000w010"), x -> x.flood(10), 1);
        answers(p, "all of six are WET", by(SIX), x -> x.flood(6), 6);
        answers(p, "none of six is WET", by(SIX), x -> x.flood(0), 0);
        answers(p, "a BRIDE's HEM of 2 alone does not make her WET", by("d9000000b010g010"), x -> x.flood(9), 0);
        answers(p, "a LIAR of HEM 0 is WET", by("d0000000l013"), x -> x.flood(1), 1);
        answers(p, "a WIDOW of HEM 0 is WET", by("d0000000v010"), x -> x.flood(1), 1);
        answers(p, "as they live now", by("d0900000w010", x -> x.move(0, 1)), x -> x.flood(9), 0);
        answers(p, "as the GROUND is now", by("d3000001w010", x -> x.dyke(0)), x -> x.flood(4), 0);
        for (int n = 0; n < 8; n++) {
            int years = n;
            answers(p, "with YEARS past: " + n, by(ONE, floods(new int[n])), x -> x.flood(3), 1);
            answers(p, "the next YEAR is due: " + (n + 1), by(ONE, floods(new int[n + 1])), x -> x.count(1), years + 1);
        }
        answers(p, "the 40th DEED", by(ONE, moves(39)), x -> x.flood(3), 1);
        answers(p, "the 40th DEED is one", by(ONE, moves(39), floods(3)), x -> x.count(2), 40);
        answers(p, "the 8th YEAR as the 40th DEED", by(ONE, floods(new int[7]), moves(32)), x -> x.flood(3), 1);
        answers(p, "a DEED by which nobody is WET is one", by(ONE, floods(0)), x -> x.count(2), 1);
        answers(p, "again when a YEAR was undone", by(ONE, floods(new int[8]), x -> x.undo(7)), x -> x.flood(3), 1);
        answers(p, "again when a DEED was undone", by(ONE, moves(40), x -> x.undo(39)), x -> x.flood(3), 1);
        stays(p, x -> x.flood(7));
    }

    private static void floodRefused() {
        String p = "16 flood";
        bad(p, "HEIGHT", rich(), f -> x -> x.flood(f), NO_HEIGHTS);
        refused(p, "no WOMEN", bare(fill(0, 5), x -> x.at(0, 0)), x -> x.flood(0), STATE);
        refused(p, "8 YEARS are past", by(ONE, floods(new int[8])), x -> x.flood(0), STATE);
        refused(p, "40 DEEDS", by(ONE, moves(40)), x -> x.flood(0), FULL);
        refused(p, "BAD is ahead of no WOMEN", bare(), x -> x.flood(21), BAD);
        refused(p, "BAD is ahead of 8 YEARS", by(ONE, floods(new int[8])), x -> x.flood(-1), BAD);
        refused(p, "BAD is ahead of 40 DEEDS", by(ONE, moves(40)), x -> x.flood(21), BAD);
        refused(p, "8 YEARS are ahead of 40 DEEDS", by(ONE, floods(new int[8]), moves(32)), x -> x.flood(0), STATE);
    }

    // ---- move

    private static void move() {
        String p = "17 move";
        answers(p, "WOMAN 0 is the first", by(SIX), x -> x.move(0, 3), 0);
        answers(p, "WOMAN 5 of 6 is the last", by(SIX), x -> x.move(5, 3), 5);
        answers(p, "PLACE 0 is the first", by(SIX), x -> x.move(3, 0), 3);
        answers(p, "PLACE 5 is the last", by(SIX), x -> x.move(3, 5), 3);
        tells(p, "she is there then: 0", by(SIX, x -> x.move(3, 0)), x -> x.woman(3, 1), 1, 0);
        tells(p, "she is there then: 5", by(SIX, x -> x.move(3, 5)), x -> x.woman(3, 1), 1, 5);
        tells(p, "the one ahead of her stays", by(SIX, x -> x.move(3, 5)), x -> x.woman(2, 1), 1, 2);
        tells(p, "the one behind her stays", by(SIX, x -> x.move(3, 5)), x -> x.woman(4, 1), 1, 4);
        answers(p, "the PLACE ahead is where she moved", by(SIX, x -> x.move(3, 5)), x -> x.move(3, 4), 5);
        answers(p, "back to where she was", by(SIX, x -> x.move(3, 5)), x -> x.move(3, 3), 5);
        answers(p, "to where another one is", by(SIX), x -> x.move(3, 4), 3);
        answers(p, "the 40th DEED", by(ONE, moves(39)), x -> x.move(0, 5), 1);
        answers(p, "a DEED", by(SIX, x -> x.move(3, 5)), x -> x.count(2), 1);
        answers(p, "no YEAR is past by it", by(SIX, x -> x.move(3, 5)), x -> x.count(1), 0);
        stays(p, x -> x.move(1, 0));
    }

    private static void moveRefused() {
        String p = "17 move";
        bad(p, "of six: WOMAN", rich(), i -> x -> x.move(i, 5), -1, 6, LEAST, MOST);
        bad(p, "of one: WOMAN", by(ONE), i -> x -> x.move(i, 5), -1, 1);
        bad(p, "of none: WOMAN", bare(), i -> x -> x.move(i, 5), 0);
        bad(p, "of one where six were: WOMAN", fewer(), i -> x -> x.move(i, 5), 1, 5);
        bad(p, "of one where six were elsewhere: WOMAN", fewer(), i -> x -> x.move(i, 0), 1, 5);
        bad(p, "PLACE", rich(), place -> x -> x.move(2, place), NO_PLACES);
        for (int k = 0; k < 6; k++) {
            int i = k;
            refused(p, "she is at " + k, by(SIX), x -> x.move(i, i), STATE);
        }
        refused(p, "she has moved there", by(ONE, x -> x.move(0, 5)), x -> x.move(0, 5), STATE);
        refused(p, "40 DEEDS", by(ONE, moves(40)), x -> x.move(0, 5), FULL);
        refused(p, "BAD of a WOMAN is ahead of 40 DEEDS", by(ONE, moves(40)), x -> x.move(1, 5), BAD);
        refused(p, "BAD of a PLACE is ahead of 40 DEEDS", by(ONE, moves(40)), x -> x.move(0, 6), BAD);
        refused(p, "STATE is ahead of 40 DEEDS", by(ONE, moves(40)), x -> x.move(0, 0), STATE);
        refused(p, "BAD of both", rich(), x -> x.move(6, 6), BAD);
    }

    // ---- dyke

    private static void dyke() {
        String p = "18 dyke";
        answers(p, "PLACE 0 is the first", by("d1234569w010"), x -> x.dyke(0), 2);
        answers(p, "PLACE 5 is the last", by("d1234569w010"), x -> x.dyke(5), 7);
        answers(p, "GROUND 0 is 1 then", by("d0234569w010"), x -> x.dyke(0), 1);
        answers(p, "GROUND 8 is 9 then", by("d8234569w010"), x -> x.dyke(0), 9);
        answers(p, "GROUND all, 1 more", by("d1234569w010", x -> x.dyke(2)), x -> x.count(4), 22);
        answers(p, "the GROUND ahead of it stays", by("d1234569w010", x -> x.dyke(2), x -> x.move(0, 1)), x -> x.dry(),
            2);
        answers(p, "the GROUND behind it stays", by("d1234569w010", x -> x.dyke(2), x -> x.move(0, 3)), x -> x.dry(),
            4);
        answers(p, "EARTH is 1 less", by("d1234569w010", x -> x.dyke(2)), x -> x.count(3), 8);
        answers(p, "the last EARTH", by("d1234561w010"), x -> x.dyke(2), 4);
        answers(p, "the last EARTH: 0 then", by("d1234561w010", x -> x.dyke(2)), x -> x.count(3), 0);
        test(p, "all of EARTH 9 at one PLACE", () -> {
            HemLine x = by("d0234569w010").make();
            for (int k = 1; k <= 9; k++) {
                is("dyke " + k, x.dyke(0), k);
                is("EARTH " + k, x.count(3), 9 - k);
            }
            is("GROUND 9, no EARTH", x.dyke(0), STATE);
        });
        answers(p, "the 40th DEED", by("d0000001w010", moves(39)), x -> x.dyke(0), 1);
        answers(p, "a DEED", by("d1234561w010", x -> x.dyke(2)), x -> x.count(2), 1);
        answers(p, "where nobody lives", by("d1234561w010"), x -> x.dyke(5), 7);
        stays(p, x -> x.dyke(4));
    }

    private static void dykeRefused() {
        String p = "18 dyke";
        Made full = by("d9000001w010", moves(40));
        Made spent = by("d9000000w010");
        bad(p, "PLACE", rich(), place -> x -> x.dyke(place), NO_PLACES);
        refused(p, "no WOMEN", bare(fill(0, 5), x -> x.at(0, 0)), x -> x.dyke(0), STATE);
        refused(p, "the GROUND is 9", by("d9000001w010"), x -> x.dyke(0), STATE);
        refused(p, "the GROUND is 9 by a dyke", by("d8000002w010", x -> x.dyke(0)), x -> x.dyke(0), STATE);
        refused(p, "no EARTH", spent, x -> x.dyke(1), SPENT);
        refused(p, "no EARTH any more", by("d0000001w010", x -> x.dyke(0)), x -> x.dyke(1), SPENT);
        refused(p, "40 DEEDS", full, x -> x.dyke(1), FULL);
        refused(p, "BAD is ahead of no WOMEN", bare(), x -> x.dyke(6), BAD);
        refused(p, "BAD is ahead of no EARTH", spent, x -> x.dyke(6), BAD);
        refused(p, "BAD is ahead of 40 DEEDS", full, x -> x.dyke(-1), BAD);
        refused(p, "GROUND 9 is ahead of no EARTH", spent, x -> x.dyke(0), STATE);
        refused(p, "GROUND 9 is ahead of 40 DEEDS", full, x -> x.dyke(0), STATE);
        refused(p, "no EARTH is ahead of 40 DEEDS", by("d0000000w010", moves(40)), x -> x.dyke(1), SPENT);
        refused(p, "GROUND 9 is ahead of no EARTH, 40 DEEDS", by("d9000000w010", moves(40)), x -> x.dyke(0), STATE);
        refused(p, "BAD is ahead of all", by("d9000000w010", moves(40)), x -> x.dyke(6), BAD);
    }

    // ---- tuck

    private static void tuck() {
        String p = "19 tuck";
        answers(p, "WOMAN 0 is the first", by(SIX), x -> x.tuck(0), 2);
        answers(p, "WOMAN 4 of 5 is the last", by("d0000000w010w010w010w010w012"), x -> x.tuck(4), 3);
        answers(p, "TUCK 0 is 1 then", by("d0000000w010"), x -> x.tuck(0), 1);
        answers(p, "TUCK 2 is 3 then", by("d0000000w012"), x -> x.tuck(0), 3);
        answers(p, "from 0 to 3", by("d0000000w010", x -> x.tuck(0), x -> x.tuck(0)), x -> x.tuck(0), 3);
        tells(p, "it is told", by(SIX, x -> x.tuck(0)), x -> x.woman(0, 3), 1, 2);
        tells(p, "another WOMAN's stays", by(SIX, x -> x.tuck(2)), x -> x.woman(1, 3), 1, 2);
        answers(p, "the 40th DEED", by(ONE, moves(39)), x -> x.tuck(0), 1);
        answers(p, "a DEED", by(ONE, x -> x.tuck(0)), x -> x.count(2), 1);
        stays(p, x -> x.tuck(1));
    }

    private static void tuckRefused() {
        String p = "19 tuck";
        bad(p, "of six: WOMAN", rich(), i -> x -> x.tuck(i), -1, 6, LEAST, MOST);
        bad(p, "of one: WOMAN", by(ONE), i -> x -> x.tuck(i), -1, 1);
        bad(p, "of none: WOMAN", bare(), i -> x -> x.tuck(i), 0);
        bad(p, "of one where six were: WOMAN", fewer(), i -> x -> x.tuck(i), 1, 5);
        refused(p, "TUCK 3", by("d0000000w013"), x -> x.tuck(0), STATE);
        refused(p, "TUCK 3 by a DEED", by("d0000000w012", x -> x.tuck(0)), x -> x.tuck(0), STATE);
        refused(p, "40 DEEDS", by(ONE, moves(40)), x -> x.tuck(0), FULL);
        refused(p, "BAD is ahead of 40 DEEDS", by(ONE, moves(40)), x -> x.tuck(1), BAD);
        refused(p, "TUCK 3 is ahead of 40 DEEDS", by("d0000000w013", moves(40)), x -> x.tuck(0), STATE);
    }

    // ---- undo

    private static void undo() {
        String p = "20 undo";
        answers(p, "no DEEDS, from 0 on", by(ONE), x -> x.undo(0), 0);
        answers(p, "no WOMEN, from 0 on", bare(), x -> x.undo(0), 0);
        answers(p, "one DEED, from 0 on", by(ONE, floods(1)), x -> x.undo(0), 1);
        answers(p, "one DEED, from 1 on: 0", by(ONE, floods(1)), x -> x.undo(1), 0);
        answers(p, "40 DEEDS, from 0 on", by(ONE, moves(40)), x -> x.undo(0), 40);
        answers(p, "40 DEEDS, from 1 on", by(ONE, moves(40)), x -> x.undo(1), 39);
        answers(p, "40 DEEDS, from 39 on", by(ONE, moves(40)), x -> x.undo(39), 1);
        answers(p, "40 DEEDS, from 40 on: 0", by(ONE, moves(40)), x -> x.undo(40), 0);
        answers(p, "DEEDS that are left", by(ONE, moves(40), x -> x.undo(17)), x -> x.count(2), 17);
        answers(p, "undone ones can't be undone again", by(ONE, moves(5), x -> x.undo(3)), x -> x.undo(3), 0);
        answers(p, "eight YEARS of them", by(ONE, floods(new int[8]), x -> x.undo(0)), x -> x.count(1), 0);
        stays(p, x -> x.undo(1));
        test(p, "0 of them: nothing changes", () -> {
            HemLine x = rich().make();
            long digest = x.digest();
            is("undo", x.undo(x.count(2)), 0);
            is("digest()", x.digest(), digest);
        });
    }

    /** As it was ahead of a DEED it is when this is undone; also done once more then. */
    private static void undone(String boundary, Call deed) {
        test("20 undo", boundary, () -> {
            HemLine x = by("d0080002 w052 l191 a232", floods(6), y -> y.keep(1)).make();
            long digest = x.digest();
            deed.on(x);
            long done = x.digest();
            is("changed", done == digest ? 1 : 0, 0);
            is("undo", x.undo(1), 1);
            is("digest()", x.digest(), digest);
            deed.on(x);
            is("digest() as done once more", x.digest(), done);
            is("undo", x.undo(0), 2);
            is("count(2)", x.count(2), 0);
        });
    }

    private static void undoneAs40th(String boundary, Call deed) {
        test("20 undo", boundary + " as the 40th DEED", () -> {
            HemLine x = by("d0080002 w052 l191 a232", floods(6), moves(38)).make();
            long digest = x.digest();
            deed.on(x);
            is("count(2)", x.count(2), 40);
            is("undo", x.undo(39), 1);
            is("digest()", x.digest(), digest);
            is("undo of the rest", x.undo(0), 39);
            is("digest() of the rest", x.digest(), by("d0080002 w052 l191 a232").make().digest());
        });
    }

    private static void undoEach() {
        undone("a flood", x -> x.flood(9));
        undone("a flood of 0", x -> x.flood(0));
        undone("a move", x -> x.move(2, 5));
        undone("a dyke up to 9", x -> x.dyke(2));
        undone("a dyke from 0 on", x -> x.dyke(0));
        undone("a TUCK up to 3", x -> x.tuck(0));
        undone("a TUCK of another WOMAN", x -> x.tuck(1));
        undone("a lot", x -> x.lots(1, 12345));
        undoneAs40th("a flood", x -> x.flood(9));
        undoneAs40th("a move", x -> x.move(2, 5));
        undoneAs40th("a dyke", x -> x.dyke(3));
        undoneAs40th("a TUCK", x -> x.tuck(1));
        undoneAs40th("a lot", x -> x.lots(1, 12345));
        String p = "20 undo";
        test(p, "of several DEEDS on the same the first tells how it was", () -> {
            HemLine x = by("d0000009w010", y -> y.move(0, 3), y -> y.move(0, 5), y -> y.move(0, 2), y -> y.dyke(2),
                y -> y.dyke(2), y -> y.tuck(0), y -> y.tuck(0)).make();
            x.undo(1);
            is("PLACE", asked(x, y -> y.woman(0, 1)), 3);
            is("TUCK", asked(x, y -> y.woman(0, 3)), 0);
            is("GROUND", x.count(4), 0);
            is("EARTH", x.count(3), 9);
        });
        answers(p, "the HEIGHT of the last flood is the one ahead", by(ONE, floods(4, 9), x -> x.undo(1)),
            x -> x.count(6), 4);
        answers(p, "no flood is left", by(ONE, floods(4), x -> x.undo(0)), x -> x.count(6), 0);
        answers(p, "the EARTH is there again", by("d0000001w010", x -> x.dyke(0), x -> x.undo(0)), x -> x.dyke(1), 1);
        answers(p, "there is room for a TUCK again", by("d0000000w012", x -> x.tuck(0), x -> x.undo(0)),
            x -> x.tuck(0), 3);
        answers(p, "a lot by which she moved to where she was", by("d0000000w010", x -> x.lots(1, seedOf(1))),
            x -> x.undo(0), 1);
        test(p, "a flood ahead of a move keeps its HEMS", () -> {
            HemLine x = by("d0500000w090", floods(6), y -> y.move(0, 1), floods(7), y -> y.undo(1), floods(8)).make();
            is("hem(0, 0)", x.hem(0, 0), 6);
            is("hem(0, 1)", x.hem(0, 1), 8);
        });
    }

    private static void undoRefused() {
        String p = "20 undo";
        bad(p, "of 5 DEEDS: number", rich(), n -> x -> x.undo(n), -1, 6, 40, LEAST, MOST);
        bad(p, "of no DEEDS: number", by(ONE), n -> x -> x.undo(n), -1, 1);
        bad(p, "of 40 DEEDS: number", by(ONE, moves(40)), n -> x -> x.undo(n), -1, 41);
        bad(p, "of no WOMEN: number", bare(), n -> x -> x.undo(n), -1, 1, MOST);
    }

    // ---- keep, on

    private static void keep() {
        String p = "21 keep";
        for (int k = 0; k < 3; k++) {
            int place = k;
            answers(p, "no DEEDS are kept at " + k, bare(x -> write(x, 0, ONE), x -> x.delta(0)), x -> x.keep(place), 0);
            answers(p, "40 DEEDS are kept at " + k, by(ONE, moves(40)), x -> x.keep(place), 40);
            answers(p, "kept once more at " + k, by(ONE, x -> x.keep(place), moves(7)), x -> x.keep(place), 7);
            test(p, "only at " + k, () -> {
                HemLine x = bare(y -> write(y, 0, ONE), y -> y.delta(0), y -> y.keep(place)).make();
                for (int other = 0; other < 3; other++) {
                    is("on(" + other + ")", x.on(other), other == place ? 0 : FINDING);
                }
            });
        }
        answers(p, "one place of three", by(ONE), x -> x.count(10), 1);
        answers(p, "a place kept twice counts once", by(ONE, x -> x.keep(0)), x -> x.count(10), 1);
        test(p, "nothing of the DELTA changes", () -> {
            HemLine x = by(SIX, floods(3, 4), y -> y.move(0, 4), y -> y.keep(0)).make();
            long digest = x.digest();
            x.keep(0);
            is("digest()", x.digest(), digest);
            is("undo(0)", x.undo(0), 3);
        });
        test(p, "asked() stays", () -> is("asked()", rich(x -> x.keep(2)).make().asked(), 7));
    }

    /** A DELTA of 40 DEEDS, 8 YEARS, GROUND 9, EARTH 0, TUCK 3. */
    private static Made ended(Call... steps) {
        return () -> {
            HemLine x = by("d8000001w012l011", floods(9, 8, 7, 6, 5, 4, 3, 2), y -> y.dyke(0), y -> y.tuck(0),
                moves(30)).make();
            for (Call step : steps) {
                step.on(x);
            }
            return x;
        };
    }

    private static void on() {
        String p = "22 on";
        for (int k = 0; k < 3; k++) {
            int place = k;
            answers(p, "no DEEDS at " + k, by(ONE, x -> x.keep(place), moves(3)), x -> x.on(place), 0);
            answers(p, "40 DEEDS at " + k, ended(x -> x.keep(place), x -> x.undo(0)), x -> x.on(place), 40);
            test(p, "all is as it was kept at " + k, () -> {
                HemLine x = ended(y -> y.keep(place), y -> y.undo(0), y -> y.tuck(1), y -> y.tuck(1), y -> y.flood(1),
                    y -> y.move(1, 5), y -> y.dyke(3), y -> y.on(place)).make();
                HemLine same = ended(y -> y.keep(place)).make();
                for (int n = 40; n >= 0; n -= 5) {
                    is("count(2)", x.count(2), n);
                    is("digest() with DEEDS: " + n, x.digest(), same.digest());
                    x.undo(Math.max(0, n - 5));
                    same.undo(Math.max(0, n - 5));
                }
            });
        }
        answers(p, "GROUND as it was in a YEAR past", by("d0000002w090", floods(9), x -> x.keep(1), x -> x.undo(0),
            x -> x.dyke(0), x -> x.dyke(0), floods(1), x -> x.on(1)), x -> x.hem(0, 0), 9);
        answers(p, "the GROUND of her PLACE as it was in a YEAR past", by("d0500000w090", floods(9), x -> x.keep(1),
            x -> x.undo(0), x -> x.move(0, 1), floods(1), x -> x.on(1)), x -> x.hem(0, 0), 9);
        answers(p, "TUCK as it was in a YEAR past", by("d0000000l090", floods(9), x -> x.keep(1), x -> x.undo(0),
            x -> x.tuck(0), floods(1), x -> x.on(1)), x -> x.hem(0, 0), 9);
        answers(p, "HEIGHT of a YEAR past", by("d0000000w090", floods(9), x -> x.keep(1), x -> x.undo(0), floods(1),
            x -> x.on(1)), x -> x.count(6), 9);
        test(p, "asked(), upper(), lower(), finding(), ROWS, TEXTS stay", () -> {
            HemLine x = rich(y -> y.at(0, 9), y -> y.row(5, 2), y -> y.put(0, 0, 'x')).make();
            long upper = x.upper(), lower = x.lower();
            x.on(1);
            is("asked()", x.asked(), 7);
            is("upper()", x.upper(), upper);
            is("lower()", x.lower(), lower);
            is("finding()", x.finding(), BEYOND);
            is("count(8)", x.count(8), 5);
            is("fault(0)", x.fault(0), 0);
        });
    }

    private static void onAndBack() {
        String p = "22 on";
        answers(p, "the kept one stays when it is gone on from", by(ONE, moves(4), x -> x.keep(1), x -> x.on(1),
            x -> x.undo(0), x -> x.tuck(0)), x -> x.on(1), 4);
        answers(p, "the kept one stays kept", by(ONE, x -> x.keep(1), x -> x.on(1)), x -> x.count(10), 2);
        answers(p, "a DELTA gone on from may be kept at another place", by(ONE, moves(4), x -> x.keep(1), x -> x.on(0),
            x -> x.on(1), x -> x.keep(2), x -> x.on(0)), x -> x.on(2), 4);
        answers(p, "DEEDS of a kept one can be undone", by(ONE, moves(4), x -> x.keep(1), x -> x.undo(0),
            x -> x.on(1)), x -> x.undo(1), 3);
        answers(p, "more DEEDS till 40", by(ONE, moves(39), x -> x.keep(1), x -> x.undo(0), x -> x.on(1)),
            x -> x.tuck(0), 1);
        refused(p, "40 DEEDS are FULL", ended(x -> x.keep(1), x -> x.undo(9), x -> x.on(1)), x -> x.tuck(1), FULL);
        refused(p, "8 YEARS are all", ended(x -> x.keep(1), x -> x.undo(0), x -> x.on(1)), x -> x.flood(1), STATE);
        refused(p, "GROUND 9 is the most", ended(x -> x.keep(1), x -> x.undo(0), x -> x.on(1)), x -> x.dyke(0), STATE);
        refused(p, "EARTH is spent", ended(x -> x.keep(1), x -> x.undo(0), x -> x.on(1)), x -> x.dyke(1), SPENT);
        refused(p, "TUCK 3 is the most", ended(x -> x.keep(1), x -> x.undo(0), x -> x.on(1)), x -> x.tuck(0), STATE);
        test(p, "its own DEEDS are undone, whatever was done meanwhile", () -> {
            Call[] deeds = {y -> y.flood(9), y -> y.move(0, 5), y -> y.dyke(0), y -> y.tuck(0), y -> y.move(2, 0),
                y -> y.dyke(3), y -> y.tuck(4), y -> y.flood(3)};
            HemLine x = by(SIX, deeds).make(), same = by(SIX, deeds).make();
            x.keep(1);
            same.keep(1);
            x.undo(0);
            Call[] others = {y -> y.tuck(1), y -> y.tuck(2), y -> y.move(3, 1), y -> y.move(3, 2), y -> y.flood(1),
                y -> y.dyke(5), y -> y.dyke(4), y -> y.move(1, 4), y -> y.on(1)};
            for (Call other : others) {
                other.on(x);
            }
            for (int n = 8; n > 0; n--) {
                is("digest() with DEEDS: " + n, x.digest(), same.digest());
                is("undo", x.undo(n - 1), 1);
                same.undo(n - 1);
            }
            is("digest() without DEEDS", x.digest(), same.digest());
        });
        test(p, "what is done behind keep() is none of it", () -> {
            HemLine x = by(SIX, y -> y.keep(1)).make();
            long digest = x.digest();
            Call[] deeds = {y -> y.flood(9), y -> y.move(0, 5), y -> y.dyke(0), y -> y.tuck(0)};
            for (Call deed : deeds) {
                deed.on(x);
                is("on(1)", x.on(1), 0);
                is("digest()", x.digest(), digest);
            }
        });
    }

    private static void keepRefused() {
        bad("21 keep", "place", rich(), k -> x -> x.keep(k), NO_KEPT);
        refused("21 keep", "no WOMEN", bare(fill(0, 5), x -> x.at(0, 0)), x -> x.keep(0), STATE);
        refused("21 keep", "no WOMEN by a FAULT", bare(x -> write(x, 0, "d0123456"), x -> x.delta(0)), x -> x.keep(2),
            STATE);
        refused("21 keep", "BAD is ahead of no WOMEN", bare(), x -> x.keep(3), BAD);
        bad("22 on", "place", rich(), k -> x -> x.on(k), NO_KEPT);
        finds("22 on", "none is kept there", rich(), x -> x.on(2), NOTHING);
        finds("22 on", "none is kept there, the first place",
            bare(x -> write(x, 0, ONE), x -> x.delta(0), x -> x.keep(1)), x -> x.on(0), NOTHING);
        finds("22 on", "no WOMEN", bare(fill(0, 5), x -> x.at(0, 0)), x -> x.on(0), NOTHING);
        finds("22 on", "gone by another DELTA", rich(x -> x.delta(0)), x -> x.on(0), NOTHING);
    }
}
