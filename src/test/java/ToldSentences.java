import java.util.ArrayList;
import java.util.List;

/** The document from "Promise 31" to its end: dykes, by turns, chances, lots, what is told. */
final class ToldSentences extends Sentences {
    private static final String ONE = "d0000000w090";
    private static final String ALL_KINDS = "d2413057 w053 b170 l262 v380 g440 a591";
    /** Two live at PLACE 0, one at PLACE 1 of GROUND 2, one at PLACE 2 of GROUND 4. */
    private static final String FOUR = "d0240003w050w050b190l292";

    static void all() {
        raise();
        raiseRefused();
        dry();
        least();
        duel();
        duelRefused();
        odds();
        mid();
        lots();
        lotsMoves();
        lotsRefused();
        asked();
        upperLower();
        count();
        countsEach();
        finding();
        findings();
        digest();
        notPromised();
    }

    // ---- 31

    private static void raises(String what, Made made, int n, int f, int wet, int... way) {
        after(what, () -> {
            HemLine x = made.make();
            int ground = x.count(4), earth = x.count(3), deeds = x.count(2);
            is("raise()", x.raise(n, f, 5), wet);
            holds(x, 5, way);
            is("GROUND as it was", x.count(4), ground);
            is("EARTH as it was", x.count(3), earth);
            is("DEEDS as they were", x.count(2), deeds);
        });
    }

    private static void raise() {
        says("int raise(int n, int f, int r): With n (0 .. 6) dykes (EARTH aside) raised, the least that all WOMEN would be "
            + "WET together by a flood of HEIGHT f (GROUND 9 at most; where WOMEN live now); how many for each PLACE comes to "
            + "a ROW (6, anew; of like ways the first one by rising numbers).");
        onNew("no WOMEN", x -> x.raise(0, 0, 0), STATE);
        raises("none: 6, 6, 4, 2", land(FOUR), 0, 6, 18, 0, 0, 0, 0, 0, 0);
        raises("one, where two live", land(FOUR), 1, 6, 16, 1, 0, 0, 0, 0, 0);
        raises("six, where two live", land(FOUR), 6, 6, 6, 6, 0, 0, 0, 0, 0);
        raises("three are enough there", land(FOUR), 3, 3, 1, 3, 0, 0, 0, 0, 0);
        raises("the fourth elsewhere", land(FOUR), 4, 3, 0, 3, 1, 0, 0, 0, 0);
        raises("two too many: at the last PLACE", land(FOUR), 6, 3, 0, 3, 1, 0, 0, 0, 2);
        raises("all too many: at the last PLACE", land(FOUR), 6, 0, 0, 0, 0, 0, 0, 0, 6);
        raises("of like ways the one with less at PLACE 0", land("d0000000w010w110"), 1, 9, 17, 0, 1, 0, 0, 0, 0);
        raises("of like ways, six", land("d0000000w010w110w210w310w410w510"), 6, 20, 114, 0, 0, 0, 0, 0, 6);
        raises("GROUND 9 at most: one there, two elsewhere", land("d8000000w090"), 3, 20, 11, 1, 0, 0, 0, 0, 2);
        raises("GROUND 9 at the last PLACE", land("d0000090w050"), 6, 0, 0, 0, 0, 0, 0, 6, 0);
        raises("all the room", land("d9999880w010"), 2, 20, 11, 0, 0, 0, 0, 1, 1);
        raises("EARTH aside", land("d0000000w010"), 5, 9, 4, 5, 0, 0, 0, 0, 0);
        raises("by WET, not by HEMS", land("d0000000w010w110w110"), 3, 9, 21, 0, 3, 0, 0, 0, 0);
        raises("HEIGHT 20", land(FOUR), 6, 20, 62, 6, 0, 0, 0, 0, 0);
        raises("where they live now", land(FOUR, x -> x.move(0, 1), x -> x.move(1, 1)), 2, 6, 8, 0, 2, 0, 0, 0, 0);
        raises("on GROUND as it is now", land(FOUR, x -> x.dyke(0), x -> x.dyke(0)), 4, 3, 0, 1, 1, 0, 0, 0, 2);
        raises("undone", land(FOUR, x -> x.dyke(0), x -> x.move(0, 1), x -> x.undo(0)), 1, 6, 16, 1, 0, 0, 0, 0, 0);
        raises("gone on from", land(FOUR, x -> x.dyke(0), x -> x.keep(0), x -> x.undo(0), x -> x.on(0)), 0, 6, 16, 0, 0, 0,
            0, 0, 0);
        raises("once more, since she moved", land(ONE, x -> x.raise(1, 9, 0), x -> x.move(0, 3)), 1, 9, 8, 0, 0, 0, 1, 0, 0);
        raises("of another DELTA", land(FOUR, begun("d0000000w310")), 2, 9, 7, 0, 0, 0, 2, 0, 0);
        raises("a ROW of 40 is one of 6 then", land(FOUR, x -> x.row(5, 40), x -> x.lay(5, 2, 9)), 1, 6, 16, 1, 0, 0, 0, 0, 0);
        raises("a ROW of none is one of 6 then", land(FOUR, x -> x.row(5, 0)), 1, 6, 16, 1, 0, 0, 0, 0, 0);
        after("it is there then", land(FOUR, x -> x.raise(0, 0, 0), x -> x.raise(0, 0, 3)), x -> x.count(8), 2);
        after("asked() stays", land(FOUR, x -> x.woman(3, 2), x -> x.raise(1, 6, 0)), x -> x.asked(), 9);
        refused("no ROW comes", land("d9999880w010"), x -> x.raise(3, 20, 0), STATE);
    }

    private static void raiseRefused() {
        says("BAD; STATE: no WOMEN, or there is not so much room (GROUND below 9).");
        onNewRefused("no WOMEN", x -> x.raise(0, 20, 5), STATE);
        onNewRefused("BAD is ahead", x -> x.raise(-1, 0, 0), BAD);
        after("room for just so many", land("d9999972w010"), x -> x.raise(2, 9, 0), 0);
        after("none where there is no room", land("d9999990w010"), x -> x.raise(0, 9, 0), 0);
        refusedEach("many:", land(FOUR), n -> x -> x.raise(n, 6, 0), -1, 7, LEAST, MOST);
        refusedEach("HEIGHT", land(FOUR), f -> x -> x.raise(1, f, 0), -1, 21, LEAST, MOST);
        refusedEach("ROW", land(FOUR), r -> x -> x.raise(1, 6, r), -1, 6, LEAST, MOST);
        refused("no room", land("d9999990w010"), x -> x.raise(1, 9, 0), STATE);
        refused("no room for six", land("d9999940w010"), x -> x.raise(6, 9, 0), STATE);
        refused("no room by a dyke", land("d9999981w010", x -> x.dyke(5)), x -> x.raise(1, 9, 0), STATE);
        refused("BAD is ahead of no room", land("d9999990w010"), x -> x.raise(1, 21, 0), BAD);
    }

    // ---- 32, 33

    private static void dry() {
        says("int dry(): The highest flood (0 .. 20) by which nobody is WET, as they live now.");
        onNew("nobody", x -> x.dry(), STATE);
        after("GROUND 0 is the least", land(FOUR), x -> x.dry(), 0);
        after("GROUND 9 is all", land("d9999990w010w590"), x -> x.dry(), 9);
        after("of 7, 5, 6", land("d7560000w010w110w210"), x -> x.dry(), 5);
        after("where nobody lives is none of it", land("d7080000w080w290"), x -> x.dry(), 7);
        after("moved", land("d7560000w010w110w210", x -> x.move(1, 0)), x -> x.dry(), 6);
        after("a dyke", land("d7560001w010w110w210", x -> x.dyke(1)), x -> x.dry(), 6);
        after("undone", land("d7560001w010w110w210", x -> x.dyke(1), x -> x.undo(0)), x -> x.dry(), 5);
        after("gone on from", land("d7560001w010w110", x -> x.move(1, 0), x -> x.keep(2), x -> x.undo(0), x -> x.on(2)),
            x -> x.dry(), 7);
        after("of another DELTA", land(FOUR, begun("d4000000w010")), x -> x.dry(), 4);
        after("nobody is WET by it", land("d7560000w010w110w210", x -> x.flood(x.dry())), x -> x.odds(1) + x.upper(), 1);
        after("one is by 1 more", land("d7560000w010w110w210"), x -> x.flood(x.dry() + 1), 1);
        refused("nobody", bare(x -> x.row(0, 0)), x -> x.dry(), STATE);

        says("STATE: no WOMEN.");
        onNewRefused("no WOMEN", x -> x.dry(), STATE);
        after("one WOMAN", land("d3000000w010"), x -> x.dry(), 3);
        refused("no WOMEN by a FAULT", bare(x -> write(x, 0, "d0000000"), x -> x.delta(0)), x -> x.dry(), STATE);
    }

    private static void least() {
        says("int least(int i, int f, int v): How many dykes at least at her PLACE keep a WOMAN from being WET by more than v "
            + "(0 .. 20) by a flood of HEIGHT f.");
        onNew("nobody", x -> x.least(0, 0, 0), BAD);
        after("6 by GROUND 0", land(FOUR), x -> x.least(0, 6, 0), 6);
        after("6 by GROUND 2", land(FOUR), x -> x.least(2, 6, 0), 4);
        after("6 by GROUND 2 up to 1", land(FOUR), x -> x.least(2, 6, 1), 3);
        after("6 by GROUND 2 up to 4", land(FOUR), x -> x.least(2, 6, 4), 0);
        after("6 by GROUND 2 up to 20", land(FOUR), x -> x.least(2, 6, 20), 0);
        after("below the GROUND", land(FOUR), x -> x.least(3, 3, 0), 0);
        after("up to GROUND 9", land(FOUR), x -> x.least(0, 9, 0), 9);
        after("20 up to 11", land(FOUR), x -> x.least(3, 20, 11), 5);
        after("EARTH aside, nothing is done", land(ONE, x -> x.least(0, 9, 0)), x -> x.count(2) + x.count(4), 0);
        after("moved", land(FOUR, x -> x.move(0, 2)), x -> x.least(0, 6, 0), 2);
        after("a dyke", land(FOUR, x -> x.dyke(0)), x -> x.least(0, 6, 0), 5);
        after("undone", land(FOUR, x -> x.dyke(0), x -> x.undo(0)), x -> x.least(0, 6, 0), 6);
        after("gone on from", land(FOUR, x -> x.dyke(0), x -> x.keep(0), x -> x.undo(0), x -> x.on(0)),
            x -> x.least(0, 6, 0), 5);
        after("of another DELTA", land(FOUR, begun("d7000000w010")), x -> x.least(0, 9, 0), 2);
        refused("a WOMAN that is none", land(FOUR), x -> x.least(4, 6, 0), BAD);

        says("NONE: GROUND 9 is not enough.");
        onNew("nobody", x -> x.least(0, 20, 0), BAD);
        afterNone("10", land(FOUR), x -> x.least(0, 10, 0));
        afterNone("20 up to 10", land(FOUR), x -> x.least(3, 20, 10));
        afterNone("GROUND is 9", land("d9000000w010"), x -> x.least(0, 20, 10));
        after("GROUND is 9, and enough", land("d9000000w010"), x -> x.least(0, 20, 11), 0);
        after("GROUND is 9 by a dyke, and not enough", land("d8000001w010", x -> x.dyke(0)), x -> x.least(0, 10, 0), NONE);
        refused("HEIGHT 21 is none", land(FOUR), x -> x.least(0, 21, 0), BAD);

        says("BAD.");
        onNewRefused("WOMAN 0", x -> x.least(0, 5, 5), BAD);
        after("0, 0", land(FOUR), x -> x.least(0, 0, 0), 0);
        refusedEach("WOMAN", land(FOUR), i -> x -> x.least(i, 6, 0), -1, 4, LEAST, MOST);
        refusedEach("HEIGHT", land(FOUR), f -> x -> x.least(0, f, 0), -1, 21, LEAST, MOST);
        refusedEach("more than", land(FOUR), v -> x -> x.least(0, 6, v), -1, 21, LEAST, MOST);
    }

    // ---- 34

    private static void duel() {
        says("int duel(int n, int f): By n (0 .. 6) turns in all two banks, one of PLACES 0 .. 2, then one of PLACES 3 .. 5, "
            + "raise the GROUND of one of theirs (below 9, EARTH aside) by 1, or none: how much more WET the WOMEN of the "
            + "second bank are together than those of the first by a flood of a HEIGHT that is f and 1 more for each dyke "
            + "raised in all (20 at most), each bank wanting to be less WET than the other one; and 100 more.");
        onNew("nobody", x -> x.duel(0, 0), STATE);
        after("no turns: 5 in the first bank", land(ONE), x -> x.duel(0, 5), 95);
        after("no turns: 5 in the second bank", land("d0000000w390"), x -> x.duel(0, 5), 105);
        for (int p = 0; p < 6; p++) {
            after("PLACE " + p + " is of bank " + (p / 3), land("d0000000w" + p + "90"), x -> x.duel(0, 3), p < 3 ? 97 : 103);
        }
        after("together: 5, 3, and 4", land("d0200010w090w190w590"), x -> x.duel(0, 5), 96);
        after("a dyke makes the flood higher: as well none", land(ONE), x -> x.duel(1, 5), 95);
        after("the first bank makes it higher for the second", land("d0000000w390"), x -> x.duel(1, 5), 106);
        after("the second bank can't help it", land("d0000000w390"), x -> x.duel(2, 5), 106);
        after("the first bank again", land("d0000000w390"), x -> x.duel(3, 5), 107);
        after("one in each, no turns", land("d0000000w090w390"), x -> x.duel(0, 5), 100);
        after("one in each, the first raises", land("d0000000w090w390"), x -> x.duel(1, 5), 101);
        after("one in each, the second does, too", land("d0000000w090w390"), x -> x.duel(2, 5), 100);
        after("one in each, six turns", land("d0000000w090w390"), x -> x.duel(6, 5), 100);
        for (int p = 0; p < 3; p++) {
            after("the first bank raises PLACE " + p, land("d0000000w" + p + "90w490"), x -> x.duel(1, 5), 101);
            after("the second bank raises PLACE " + (p + 3), land("d0000000w190w" + (p + 3) + "90"), x -> x.duel(2, 5), 100);
        }
        after("a second bank of GROUND 9 raises none", land("d0009990w090"), x -> x.duel(2, 5), 95);
        after("a first bank of GROUND 9 raises none", land("d9990000w490"), x -> x.duel(1, 5), 105);
        after("once more, since she moved", land(ONE, x -> x.duel(2, 5), x -> x.move(0, 3)), x -> x.duel(0, 5), 105);
        after("20 at most: the dyke helps", land(ONE), x -> x.duel(1, 20), 81);
        after("20 at most: two dykes help", land(ONE), x -> x.duel(3, 20), 82);
        after("19: the first dyke does not help", land(ONE), x -> x.duel(1, 19), 81);
        after("GROUND 9 can't be raised", land("d9000000w090"), x -> x.duel(1, 12), 97);
        after("GROUND 8 can, once", land("d8000000w090"), x -> x.duel(6, 20), 89);
        after("nothing can be raised", land("d9999990w010"), x -> x.duel(6, 20), 89);
        after("the flood is below the GROUND", land("d9000000w090"), x -> x.duel(6, 0), 100);
        after("less than 0", land("d0000000w090w090w090w190w190w290"), x -> x.duel(0, 20), -20);
        after("moved to the other bank", land(ONE, x -> x.move(0, 3)), x -> x.duel(0, 5), 105);
        after("a dyke", land("d0000001w090", x -> x.dyke(0)), x -> x.duel(0, 5), 96);
        after("undone", land("d0000001w090", x -> x.dyke(0), x -> x.undo(0)), x -> x.duel(0, 5), 95);
        after("gone on from", land(ONE, x -> x.move(0, 3), x -> x.keep(0), x -> x.undo(0), x -> x.on(0)), x -> x.duel(0, 5),
            105);
        after("of another DELTA", land(ONE, begun("d0000000w590w590")), x -> x.duel(0, 5), 110);
        after("nothing is done", land(ONE, x -> x.duel(6, 5)), x -> x.count(2) + x.count(4), 0);
        refused("seven turns", land(ONE), x -> x.duel(7, 5), BAD);
    }

    private static void duelRefused() {
        says("BAD; STATE: no WOMEN.");
        onNewRefused("no WOMEN", x -> x.duel(6, 20), STATE);
        onNewRefused("BAD is ahead", x -> x.duel(7, 20), BAD);
        after("six turns, HEIGHT 20", land("d9999990w310"), x -> x.duel(6, 20), 111);
        refusedEach("turns:", land(FOUR), n -> x -> x.duel(n, 5), -1, 7, LEAST, MOST);
        refusedEach("HEIGHT", land(FOUR), f -> x -> x.duel(1, f), -1, 21, LEAST, MOST);
    }

    // ---- 35, 36

    private static Made fourFloods(Call... steps) {
        return land("d0350001w090w190w290", floods(2, 4, 6, 0), each(steps));
    }

    private static void odds() {
        says("int odds(int v): Chances that v (0 .. 6) or more WOMEN are WET by it: 1.");
        onNew("no floods", x -> x.odds(0), STATE);
        // 1, 2, 3, 0 are WET
        long[][] due = {{1, 1}, {3, 4}, {1, 2}, {1, 4}, {0, 1}, {0, 1}, {0, 1}};
        for (int v = 0; v <= 6; v++) {
            int wet = v;
            afterParts(v + " or more", fourFloods(), x -> x.odds(wet), due[v][0], due[v][1]);
        }
        afterParts("six are WET", land("d0000000w010w010w010w010w010w010", floods(1, 0, 1)), x -> x.odds(6), 2, 3);
        afterParts("by WET, not by HEMS", land("d0000000b010l013", floods(0, 1)), x -> x.odds(1), 1, 2);
        afterParts("one flood more", fourFloods(floods(20)), x -> x.odds(3), 2, 5);
        afterParts("one flood less", fourFloods(x -> x.undo(3)), x -> x.odds(1), 1, 1);
        afterParts("moved", fourFloods(x -> x.move(2, 0)), x -> x.odds(2), 3, 4);
        afterParts("a dyke", fourFloods(x -> x.dyke(1)), x -> x.odds(2), 1, 4);
        afterParts("gone on from", fourFloods(x -> x.keep(0), x -> x.move(2, 0), x -> x.on(0)), x -> x.odds(2), 1, 2);
        afterParts("of another DELTA", fourFloods(begun(ONE), floods(1)), x -> x.odds(1), 1, 1);
        after("asked() stays", fourFloods(x -> x.woman(0, 2), x -> x.odds(1)), x -> x.asked(), 9);
        refused("what was told stays", fourFloods(x -> x.odds(1)), x -> x.odds(-1), BAD);

        says("BAD; STATE: no WOMEN, no floods.");
        onNewRefused("no WOMEN", x -> x.odds(6), STATE);
        onNewRefused("BAD is ahead", x -> x.odds(7), BAD);
        after("one flood", land(ONE, floods(0)), x -> x.odds(6), 1);
        refusedEach("many:", fourFloods(), v -> x -> x.odds(v), -1, 7, LEAST, MOST);
        refused("no floods", land(ONE, moves(3)), x -> x.odds(1), STATE);
        refused("no floods any more", fourFloods(x -> x.undo(0)), x -> x.odds(1), STATE);
    }

    private static void mid() {
        says("int mid(): The mean of how WET all are together by it: 1.");
        onNew("no floods", x -> x.mid(), STATE);
        afterParts("2, 5, 10, 0 by four", fourFloods(), x -> x.mid(), 17, 4);
        afterParts("one flood more: 52", fourFloods(floods(20)), x -> x.mid(), 69, 5);
        afterParts("one flood less", fourFloods(x -> x.undo(3)), x -> x.mid(), 17, 3);
        afterParts("a flood of 9 less", land(ONE, floods(2, 9), x -> x.undo(1)), x -> x.mid(), 2, 1);
        afterParts("moved: 4, 9, 15, 0", fourFloods(x -> x.move(2, 0)), x -> x.mid(), 7, 1);
        afterParts("a dyke: 2, 4, 9, 0", fourFloods(x -> x.dyke(1)), x -> x.mid(), 15, 4);
        afterParts("undone", fourFloods(x -> x.dyke(1), x -> x.undo(4)), x -> x.mid(), 17, 4);
        afterParts("gone on from", fourFloods(x -> x.keep(0), x -> x.move(2, 0), x -> x.on(0)), x -> x.mid(), 17, 4);
        afterParts("of another DELTA", fourFloods(begun(ONE), floods(1, 2)), x -> x.mid(), 3, 2);
        afterParts("by WET, not by HEMS", land("d0000000b010l013", floods(0, 3)), x -> x.mid(), 3, 1);
        after("asked() stays", fourFloods(x -> x.woman(0, 2), x -> x.mid()), x -> x.asked(), 9);
        refused("what was told stays", fourFloods(x -> x.mid(), x -> x.undo(0)), x -> x.mid(), STATE);

        says("STATE: no WOMEN, no floods.");
        onNewRefused("no WOMEN", x -> x.mid(), STATE);
        after("one flood", land(ONE, floods(0)), x -> x.mid(), 1);
        refused("no floods", land(ONE, moves(3)), x -> x.mid(), STATE);
        refused("no floods any more", fourFloods(x -> x.undo(0)), x -> x.mid(), STATE);
    }

    // ---- 37

    private static void lots() {
        says("int lots(int n, int seed): n (1 .. 20) DEEDS truly by LOTS of a seed: a number comes from the one ahead by 48271 "
            + "times it modulo 2147483647, the first from the seed (1 .. 2147483646): if it modulo 4 is 0 and less than 8 "
            + "YEARS are past, a flood of HEIGHT it by 8, cut, modulo 21,");
        onNew("nobody", x -> x.lots(1, 1), STATE);
        // 2147483646 is -1: the number is 2147483647 - 48271 = 2147435376, by 4 without rest; by 8 it is 268429422.
        after("a flood of the greatest seed", land(ONE), x -> x.lots(1, 2147483646), 1);
        after("its HEIGHT", land(ONE, x -> x.lots(1, 2147483646)), x -> x.count(6), 9);
        after("its HEM", land(ONE, x -> x.lots(1, 2147483646)), x -> x.hem(0, 0), 9);
        int[][] floods = {{4, 0}, {8, 1}, {12, 1}, {156, 19}, {160, 20}, {164, 20}, {168, 0}, {176, 1}, {344, 1}};
        for (int[] flood : floods) {
            after("number " + flood[0], land(ONE, x -> x.lots(1, seedOf(flood[0]))), x -> x.count(1) * 100 + x.count(6),
                100 + flood[1]);
        }
        for (int number : new int[] {1, 2, 3, 5, 6, 7, 161, 162, 163}) {
            after("number " + number + " is no flood", land(ONE), x -> x.lots(1, seedOf(number)), 0);
        }
        after("the 8th YEAR", land(ONE, floods(new int[7])), x -> x.lots(1, seedOf(160)), 8);
        after("8 YEARS are past: no flood", land(ONE, floods(new int[8])), x -> x.lots(1, seedOf(160)), 8);
        after("8 YEARS are past: a DEED", land(ONE, floods(new int[8]), x -> x.lots(1, seedOf(160))), x -> x.count(2), 9);
        after("n DEEDS", land(ONE, x -> x.lots(20, 7)), x -> x.count(2), 20);
        // The second number is 48271 times 8, 386168, by 8: 48271, modulo 21: 13.
        after("the number comes from the one ahead", land(ONE, x -> x.lots(2, seedOf(8))), x -> x.count(6), 13);
        refused("no seed", land(ONE), x -> x.lots(1, 2147483647), BAD);
    }

    private static void lotsMoves() {
        says("else the WOMAN that it by 8, cut, modulo how many there are is moves to the PLACE that it by 64, cut, modulo 6 is "
            + "(a DEED, also if she is there): how many YEARS are past then.");
        onNew("nobody", x -> x.lots(1, 1), STATE);
        Made three = land("d0000000w010w110w210");
        // The first number of seed 1 is 48271: by 8 6033, modulo 3 0; by 64 754, modulo 6 4.
        after("a move", three, x -> x.lots(1, 1), 0);
        afterTells("WOMAN 0 to PLACE 4", land("d0000000w010w110w210", x -> x.lots(1, 1)), x -> x.woman(0, 1), 1, 4);
        // The second one is 182605794: by 8 22825724, modulo 3 2; by 64 2853215, modulo 6 5.
        afterTells("WOMAN 2 to PLACE 5", land("d0000000w010w110w210", x -> x.lots(2, 1)), x -> x.woman(2, 1), 1, 5);
        afterTells("WOMAN 1 stays", land("d0000000w010w110w210", x -> x.lots(2, 1)), x -> x.woman(1, 1), 1, 1);
        int[][] moves = {{1, 0, 0}, {7, 0, 0}, {9, 1, 0}, {15, 1, 0}, {17, 2, 0}, {25, 0, 0}, {65, 2, 1}, {127, 0, 1},
            {129, 1, 2}, {321, 1, 5}, {383, 2, 5}, {385, 0, 0}};
        for (int[] move : moves) {
            after("number " + move[0], () -> {
                HemLine x = land("d0000000w310w310w310", y -> y.lots(1, seedOf(move[0]))).make();
                for (int i = 0; i < 3; i++) {
                    is("woman(" + i + ", 1)", x.woman(i, 1), 1);
                    is("PLACE of " + i, x.asked(), i == move[1] ? move[2] : 3);
                }
            });
        }
        after("by one WOMAN it is she", land("d0000000w310", x -> x.lots(1, seedOf(65)), x -> x.woman(0, 1)), x -> x.asked(), 1);
        after("a DEED, also if she is there", land("d0000000w010", x -> x.lots(1, seedOf(1))), x -> x.count(2), 1);
        after("undone, also if she was there", land("d0000000w010", x -> x.lots(1, seedOf(1))), x -> x.undo(0), 1);
        afterTells("undone", land("d0000000w310", x -> x.lots(1, seedOf(65)), x -> x.undo(0)), x -> x.woman(0, 1), 1, 3);
        // 160 by 8 is 20, modulo 3 2; by 64 2, modulo 6 2.
        afterTells("8 YEARS are past: what would be a flood is a move", land("d0000000w310w310w310", floods(new int[8]),
            x -> x.lots(1, seedOf(160))), x -> x.woman(2, 1), 1, 2);
        after("YEARS past are told where none is by lots", land(ONE, floods(3, 4)), x -> x.lots(1, seedOf(1)), 2);
        after("the same again by the same seed", () -> {
            HemLine x = land(ALL_KINDS, y -> y.lots(20, 4711)).make(), same = land(ALL_KINDS, y -> y.lots(20, 4711)).make();
            is("digest()", x.digest(), same.digest());
        });
        after("gone on from", land(ONE, x -> x.lots(9, 33), x -> x.keep(0), x -> x.undo(0), x -> x.on(0)), x -> x.undo(0), 9);
        refused("nobody moves", land(ONE, moves(40)), x -> x.lots(1, 1), FULL);
    }

    private static void lotsRefused() {
        says("BAD; STATE: no WOMEN; FULL: with n more there would be more than 40 DEEDS.");
        onNewRefused("no WOMEN", x -> x.lots(1, 1), STATE);
        onNewRefused("no lots", x -> x.lots(0, 1), BAD);
        after("just 40 then", land(ONE, moves(20)), x -> x.lots(20, 1) * 0 + x.count(2), 40);
        refusedEach("many:", land(ONE), n -> x -> x.lots(n, 1), -1, 0, 21, LEAST, MOST);
        refusedEach("seed", land(ONE), seed -> x -> x.lots(1, seed), -1, 0, LEAST, MOST);
        refused("41 then", land(ONE, moves(21)), x -> x.lots(20, 1), FULL);
        refused("40 are", land(ONE, moves(40)), x -> x.lots(1, 1), FULL);

        says("(FULL last.)");
        onNewRefused("no WOMEN, 20", x -> x.lots(20, 1), STATE);
        after("undone", land(ONE, moves(40), x -> x.undo(20)), x -> x.lots(20, 1) * 0 + x.count(2), 40);
        refused("BAD is ahead: many", land(ONE, moves(40)), x -> x.lots(21, 1), BAD);
        refused("BAD is ahead: seed", land(ONE, moves(40)), x -> x.lots(20, 0), BAD);
    }

    // ---- 38, 39, 40

    private static void asked() {
        says("int asked(): What the latest lay(), at(), mean(), woman(), know(), look(), looks(), line(), test(), whose() that "
            + "was not refused (nor answered NONE) told; 0 before.");
        onNew("0 before", x -> x.asked(), 0);
        onNew("0 is 0 though it was refused", x -> x.at(0, 0) * 0 + x.asked(), 0);
        Made made = land("d0000000w020w010", floods(9), fill(0, 3, 5), fill(1), fill(2, 2), x -> x.at(0, 1));
        after("at()", made, x -> x.asked(), 5);
        after("lay()", made, x -> x.lay(0, 0, 9) * 0 + x.asked(), 3);
        after("mean()", made, x -> x.mean(0) * 0 + x.asked(), 4);
        after("woman()", made, x -> x.woman(0, 2) * 0 + x.asked(), 2);
        after("know()", made, x -> x.know(0, 0) * 0 + x.asked(), 21);
        after("look()", made, x -> x.look(0, 0) * 0 + x.asked(), 19);
        after("looks()", made, x -> x.looks(0) * 0 + x.asked(), 1);
        after("line()", land("d0000000w020w010", floods(9)), x -> x.line(0) * 0 + x.asked(), 1);
        // All KINDS of TALL 2 without a TUCK: 0, 2, 0, 0, 3, 0 by 0; 2, 2, 2, 1, 3, 2 by 2; 1, 2, 1, 1, 3, 1 by 1
        after("test()", made, x -> x.test(0, 1) * 0 + x.asked(), 4);
        after("whose()", made, x -> x.whose(2) * 0 + x.asked(), 1);
        String[] others = {"row", "tear", "copy", "text", "put", "fault", "delta", "mark", "hem", "would", "flood", "move",
            "dyke", "tuck", "undo", "keep", "on", "high", "kinds", "raise", "dry", "least", "duel", "odds", "mid", "lots",
            "upper", "lower", "count", "finding", "findings", "digest"};
        Call[] calls = {x -> x.row(3, 1), x -> x.tear(0), x -> x.copy(2, 0, 0, 0, 1), x -> x.text(1, 1), x -> x.put(0, 0, 1),
            x -> x.fault(0), x -> x.delta(0), x -> x.mark(0, 1), x -> x.hem(0, 0), x -> x.would(0, 9), x -> x.flood(3),
            x -> x.move(0, 1), x -> x.dyke(0), x -> x.tuck(0), x -> x.undo(0), x -> x.keep(0), x -> x.on(0), x -> x.high(0),
            x -> x.kinds(0, 1), x -> x.raise(1, 9, 3), x -> x.dry(), x -> x.least(0, 9, 0), x -> x.duel(2, 9),
            x -> x.odds(1), x -> x.mid(), x -> x.lots(3, 9), x -> x.upper(), x -> x.lower(), x -> x.count(1),
            x -> x.finding(), x -> x.findings(1), x -> x.digest()};
        for (int k = 0; k < calls.length; k++) {
            Call call = calls[k];
            after("not by " + others[k] + "()", made, x -> call.on(x) * 0 + x.asked(), 5);
        }
        after("not by look() of NONE", made, x -> x.look(3, 0) * 0 + x.asked(), 5);
        refused("not by at() of no ROW", made, x -> x.at(6, 0), BAD);
        refused("not by woman() of nobody", made, x -> x.woman(2, 0), BAD);
        refused("not by know() of no YEAR", made, x -> x.know(0, 1), BAD);
        refused("not by look() of no YEAR", made, x -> x.look(0, 1), BAD);
        refused("not by looks() of no YEAR", made, x -> x.looks(1), BAD);
        refused("not by line() of no YEAR", made, x -> x.line(1), BAD);
        finds("not by lay() beyond", made, x -> x.lay(0, 2, 1), BEYOND);
        finds("not by mean() of none", made, x -> x.mean(1), NOUGHT);
        finds("not by test() not by pairs", made, x -> x.test(0, 2), SIZE);
        finds("not by whose() of too many", made, x -> x.whose(0), SIZE);
    }

    private static void upperLower() {
        says("long upper(): The upper number that was told last; 0 before.");
        unrefused();
        onNew("0 before", x -> x.upper(), 0);
        onNew("0 before, refused", x -> x.mid() * 0 + x.upper(), 0);
        after("by odds()", fourFloods(x -> x.odds(1)), x -> x.upper(), 3);
        after("by mid()", fourFloods(x -> x.odds(1), x -> x.mid()), x -> x.upper(), 17);
        after("by odds() again", fourFloods(x -> x.mid(), x -> x.odds(2)), x -> x.upper(), 1);
        after("it stays when floods are undone, another DELTA begins", fourFloods(x -> x.mid(), x -> x.undo(0), begun(ONE)),
            x -> x.upper(), 17);
        after("it stays when refused", fourFloods(x -> x.mid(), x -> x.odds(7), x -> x.undo(0), x -> x.mid()), x -> x.upper(), 17);

        says("long lower(): Its lower number; 1 before.");
        unrefused();
        onNew("1 before", x -> x.lower(), 1);
        onNew("1 before, refused", x -> x.odds(0) * 0 + x.lower(), 1);
        after("by odds()", fourFloods(x -> x.mid(), x -> x.odds(2)), x -> x.lower(), 2);
        after("by mid()", fourFloods(x -> x.odds(2), x -> x.mid()), x -> x.lower(), 4);
        after("of none", fourFloods(x -> x.mid(), x -> x.odds(6)), x -> x.lower(), 1);
        after("it stays when floods are undone, another DELTA begins", fourFloods(x -> x.mid(), x -> x.undo(0), begun(ONE)),
            x -> x.lower(), 4);
        after("it stays when refused", fourFloods(x -> x.mid(), x -> x.odds(7), x -> x.undo(0), x -> x.mid()), x -> x.lower(), 4);
    }

    // ---- 41

    private static void count() {
        says("int count(int what): 0 WOMEN, 1 YEARS past, 2 DEEDS, 3 EARTH, 4 all GROUND, 5 all TUCKS, 6 the HEIGHT of the last "
            + "flood (0: none), 7 BRIDES (GIRLS, too), 8 ROWS, 9 TEXTS that are there, 10 kept DELTAS.");
        int[] ahead = {6, 0, 0, 7, 15, 6, 0, 2, 0, 1, 0};
        int[] then = {6, 3, 6, 6, 16, 7, 9, 2, 2, 2, 1};
        for (int k = 0; k <= 10; k++) {
            int what = k;
            Call[] done = {x -> x.flood(6), x -> x.flood(3), x -> x.flood(9), x -> x.dyke(0), x -> x.tuck(1),
                x -> x.move(2, 0), x -> x.row(5, 0), x -> x.row(1, 3), x -> x.text(3, 0), x -> x.keep(2)};
            onNew("" + k, x -> x.count(what), 0);
            after(k + " of a DELTA", land(ALL_KINDS), x -> x.count(what), ahead[k]);
            after(k + " of what was done", land(ALL_KINDS, done), x -> x.count(what), then[k]);
            after(k + " undone", land(ALL_KINDS, each(done), x -> x.undo(0)), x -> x.count(what),
                k < 8 ? ahead[k] : then[k]);
            after(k + " gone on from", land(ALL_KINDS, each(done), x -> x.undo(0), x -> x.on(2)), x -> x.count(what),
                then[k]);
            after(k + " of another DELTA", land(ALL_KINDS, each(done), begun(ONE)), x -> x.count(what),
                new int[] {1, 0, 0, 0, 0, 0, 0, 0, 2, 2, 0}[k]);
        }
        after("5: where six of TUCK 3 were", land("d0000000w593w593w593w593w593w593", begun(ONE)), x -> x.count(5), 0);
        after("7: the first of them", land("d0000000b010w010"), x -> x.count(7), 1);
        after("7: the last of them", land("d0000000w010g010"), x -> x.count(7), 1);
        after("8: one torn", bare(x -> x.row(0, 1), x -> x.row(3, 1), x -> x.tear(0)), x -> x.count(8), 1);
        after("8: all six", bare(x -> fill(0) .on(x) + fill(1).on(x) + fill(2).on(x) + fill(3).on(x) + fill(4).on(x)
            + fill(5).on(x)), x -> x.count(8), 6);
        after("9: all four", bare(x -> x.text(0, 0) + x.text(1, 1) + x.text(2, 0) + x.text(3, 60)), x -> x.count(9), 4);
        refused("11", rich(), x -> x.count(11), BAD);
    }

    private static void countsEach() {
        says("BAD.");
        onNewRefused("11", x -> x.count(11), BAD);
        after("10 is the last", land(ONE, x -> x.keep(0)), x -> x.count(10), 1);
        refusedEach("what", rich(), what -> x -> x.count(what), -1, 11, LEAST, MOST);
    }

    // ---- 42, 43

    private static void finding() {
        says("int finding(): The latest FINDING (0 before any).");
        onNew("0 before any", x -> x.finding(), 0);
        onNew("0 where it was refused otherwise", x -> x.row(6, -1) + x.flood(0) + x.finding(), BAD + STATE);
        after("1", bare(x -> x.at(0, 0)), x -> x.finding(), 1);
        after("5, behind 1", bare(x -> x.at(0, 0), x -> x.row(0, -1)), x -> x.finding(), 5);
        after("1, behind 5", bare(x -> x.row(0, -1), x -> x.at(0, 0)), x -> x.finding(), 1);
        after("2, 3, 4: the last", land(ONE, x -> x.row(0, 0), x -> x.at(0, 0), x -> x.mark(0, 1), x -> x.mean(0)),
            x -> x.finding(), 4);
        after("it stays behind what is not refused", bare(x -> x.at(0, 0), x -> x.row(0, 1), x -> x.at(0, 0)),
            x -> x.finding(), 1);
        after("it stays when another DELTA begins, is undone", land(ONE, x -> x.mark(0, 1), x -> x.undo(0), x -> x.delta(0)),
            x -> x.finding(), 3);
        refused("it stays behind BAD", bare(x -> x.at(0, 0)), x -> x.at(6, 0), BAD);
        finds("it is the new one", bare(x -> x.at(0, 0)), x -> x.row(0, -1), SIZE);
    }

    private static void findings() {
        says("int findings(int f): How often a FINDING (1 .. 5) was answered.");
        for (int f = 1; f <= 5; f++) {
            int which = f;
            onNew("never: " + f, x -> x.findings(which), 0);
        }
        Call[] some = {x -> x.at(0, 0), x -> x.fault(0), x -> x.on(0), x -> x.row(0, 0), x -> x.at(0, 0), x -> x.mean(0),
            x -> x.row(0, -1), x -> x.row(6, 0), x -> x.flood(0)};
        int[] often = {3, 1, 0, 1, 1};
        for (int f = 1; f <= 5; f++) {
            int which = f;
            after("some of " + f, bare(some), x -> x.findings(which), often[f - 1]);
            after("twice as many of " + f, bare(each(some), x -> x.tear(0), each(some)), x -> x.findings(which),
                2 * often[f - 1]);
        }
        after("UNLIKE", land(ONE, x -> x.mark(0, 1), x -> x.mark(0, 2)), x -> x.findings(3), 2);
        after("they stay when another DELTA begins, is undone", land(ONE, x -> x.mark(0, 1), x -> x.undo(0),
            x -> x.delta(0)), x -> x.findings(3), 1);
        finds("one more", rich(), x -> x.mean(1), NOUGHT);

        says("BAD.");
        onNewRefused("0", x -> x.findings(0), BAD);
        after("5 is the last", bare(x -> x.row(0, -1)), x -> x.findings(5), 1);
        refusedEach("FINDING", rich(), f -> x -> x.findings(f), -1, 0, 6, LEAST, MOST);
    }

    // ---- 44

    private static long digestOf(List<Integer> values) {
        long h = 17;
        for (int v : values) {
            h = 31 * h + v;
        }
        return h;
    }

    private static void add(List<Integer> all, int... values) {
        for (int v : values) {
            all.add(v);
        }
    }

    private static void digest() {
        says("long digest(): h = 17; then h = 31 h + v for each v (of a call that tells by asked(): what it tells, not the 1 "
            + "that it answers; asked() stays): count() 0 to 10; GROUND of PLACES 0 .. 5 (0 each without a DELTA); of each "
            + "WOMAN woman() 0 to 5, her HEMS; of each kept DELTA how many DEEDS (-1: missing); of each ROW its size (-1: "
            + "missing) and places, of each TEXT likewise.");
        unrefused();
        onNew("of nothing", () -> {
            List<Integer> all = new ArrayList<>();
            add(all, 0, 0, 0, 0, 0, 0, 0, 0, 0, 0, 0);
            add(all, 0, 0, 0, 0, 0, 0);
            add(all, -1, -1, -1);
            add(all, -1, -1, -1, -1, -1, -1);
            add(all, -1, -1, -1, -1);
            is("digest()", new HemLine().digest(), digestOf(all));
        });
        onNew("of ROWS, TEXTS alone", () -> {
            HemLine x = bare(fill(1, 7, LEAST), fill(4), y -> y.text(2, 2), y -> y.put(2, 1, 200)).make();
            List<Integer> all = new ArrayList<>();
            add(all, 0, 0, 0, 0, 0, 0, 0, 0, 2, 1, 0);
            add(all, 0, 0, 0, 0, 0, 0);
            add(all, -1, -1, -1);
            add(all, -1, 2, 7, LEAST, -1, -1, 0, -1);
            add(all, -1, -1, 2, 32, -56, -1);
            is("digest()", x.digest(), digestOf(all));
        });
        Call[] done = {x -> x.flood(6), x -> x.flood(3), x -> x.flood(9), x -> x.keep(1), x -> x.dyke(0), x -> x.tuck(1),
            x -> x.move(2, 5), x -> x.keep(0), fill(5, 1, 2, 3), x -> x.undo(5)};
        after("of a DELTA, its WOMEN, HEMS, kept ones", () -> is("digest()", land(ALL_KINDS, done).make().digest(),
            digestOf(afterAll())));
        after("gone on from, undone", () -> is("digest()", land(ALL_KINDS, each(done), x -> x.on(0), x -> x.undo(5)).make()
            .digest(), digestOf(afterAll())));
        after("asked() stays", land(ALL_KINDS, x -> x.woman(3, 2), x -> x.digest()), x -> x.asked(), 8);
        after("upper() stays", land(ALL_KINDS, floods(9), x -> x.mid(), x -> x.digest()), x -> x.upper(), 39);
        after("twice the same", () -> {
            HemLine x = rich().make();
            long digest = x.digest();
            is("digest()", x.digest(), digest);
        });
        after("what was asked, found, told of chances is none of it", () -> {
            HemLine x = rich(y -> y.at(0, 2), y -> y.at(0, 3), y -> y.odds(6)).make();
            is("digest()", x.digest(), rich().make().digest());
        });
    }

    /** ALL_KINDS, floods of 6, 3, 9; a dyke at 0, a TUCK of 1 undone; kept: 6 DEEDS at 0, 3 at 1; ROW 5. */
    private static List<Integer> afterAll() {
        List<Integer> all = new ArrayList<>();
        add(all, 6, 3, 5, 6, 16, 7, 9, 2, 1, 1, 2);
        add(all, 3, 4, 1, 3, 0, 5);
        add(all, 0, 0, 5, 3, 3, 5, 4, 1, 5);
        add(all, 1, 1, 7, 1, 3, 5, 2, 2, 5);
        add(all, 2, 2, 6, 2, 3, 4, 3, 0, 4);
        add(all, 3, 3, 8, 0, 3, 4, 3, 0, 4);
        add(all, 4, 4, 4, 0, 3, 5, 5, 4, 5);
        add(all, 5, 5, 9, 1, 3, 4, 1, 0, 4);
        add(all, 6, 3, -1);
        add(all, -1, -1, -1, -1, -1, 3, 1, 2, 3);
        add(all, ALL_KINDS.length());
        for (int i = 0; i < ALL_KINDS.length(); i++) {
            add(all, ALL_KINDS.charAt(i));
        }
        add(all, -1, -1, -1);
        return all;
    }

    private static void notPromised() {
        passes("How the state is held inside the object is free, as are the speed of each call, the text of toString and the "
            + "behaviour of equals and hashCode. Use of one object from several threads at once is not promised to be safe. "
            + "Nothing is promised beyond the answers and state changes described above, and nothing about an object after "
            + "its 512th call.");
    }
}
