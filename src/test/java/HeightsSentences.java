/** The document from "Promise 23" to "Promise 30": how high it was, who one is. */
final class HeightsSentences extends Sentences {
    private static final String ONE = "d0000000w090";
    /** By a flood of 4: 4 to 20 FIT WOMAN 0, just 4 FITS WOMAN 1, 4 to 8 FIT the BRIDE, all FIT the WIDOW of TALL 1. */
    private static final String FOUR = "d0360000w040w190b290v310";

    static void all() {
        know();
        high();
        look();
        looks();
        line();
        kinds();
        kindsRefused();
        test();
        testRefused();
        whose();
        whoseRefused();
    }

    private static Made four(Call... steps) {
        return land(FOUR, floods(4), each(steps));
    }

    // ---- 23

    private static void know() {
        says("int know(int set, int y): HEIGHTS (bits) that some WOMEN (bits) know of a YEAR (of nobody, 0: all HEIGHTS); how "
            + "many by asked().");
        onNew("no YEAR", x -> x.know(0, 0), BAD);
        int[] alone = {bits(4, 20), 1 << 4, bits(0, 8), ALL_HEIGHTS};
        for (int i = 0; i < 4; i++) {
            int set = 1 << i;
            afterTells("WOMAN " + i + " alone", four(), x -> x.know(set, 0), alone[i], Integer.bitCount(alone[i]));
        }
        afterTells("of nobody", four(), x -> x.know(0, 0), 2097151, 21);
        afterTells("0, 2", four(), x -> x.know(5, 0), bits(4, 8), 5);
        afterTells("2, 3", four(), x -> x.know(12, 0), bits(0, 8), 9);
        afterTells("0, 1", four(), x -> x.know(3, 0), 1 << 4, 1);
        afterTells("all", four(), x -> x.know(15, 0), 1 << 4, 1);
        afterTells("what is done since does not change it", four(x -> x.move(0, 2), x -> x.tuck(0), floods(9)),
            x -> x.know(1, 0), bits(4, 20), 17);
        afterTells("the next YEAR", four(floods(2)), x -> x.know(1, 1), 1 << 2, 1);
        afterTells("another flood where one is undone", four(x -> x.undo(0), floods(2)), x -> x.know(1, 0), 1 << 2, 1);
        afterTells("gone on from", four(x -> x.keep(0), x -> x.undo(0), floods(2), x -> x.on(0)), x -> x.know(1, 0),
            bits(4, 20), 17);
        afterTells("of another DELTA", four(begun("d3000000w090"), floods(1)), x -> x.know(1, 0), bits(0, 3), 4);
        refused("what was told stays", four(x -> x.know(5, 0)), x -> x.know(16, 0), BAD);

        says("BAD.");
        onNewRefused("no WOMEN, no YEAR", x -> x.know(0, 0), BAD);
        after("15 is a set of four", four(), x -> x.know(15, 0), 1 << 4);
        refusedEach("a set of four:", four(), set -> x -> x.know(set, 0), -1, 16, LEAST, MOST);
        refusedEach("YEAR", four(), y -> x -> x.know(0, y), -1, 1, LEAST, MOST);
        refused("a YEAR that is undone", four(x -> x.undo(0)), x -> x.know(0, 0), BAD);
        refused("a set of another DELTA", four(begun(ONE), floods(1)), x -> x.know(2, 0), BAD);
    }

    // ---- 24

    private static void high() {
        says("int high(int y): The HEIGHT of a YEAR by all WOMEN, if just one FITS all; else NONE.");
        onNew("no YEAR", x -> x.high(0), BAD);
        after("4", four(), x -> x.high(0), 4);
        after("0", land(ONE, floods(0)), x -> x.high(0), 0);
        after("17, the highest of one of GROUND 9", land("d9000000w090", floods(17)), x -> x.high(0), 17);
        after("by two of whom neither knows it", land("d0500000w050w190", floods(5)), x -> x.high(0), 5);
        afterNone("two FIT", land("d1000000w090", floods(1)), x -> x.high(0));
        afterNone("from TALL on many FIT", land("d0000000w050", floods(5)), x -> x.high(0));
        after("what is done since does not change it", four(x -> x.move(1, 2), floods(20)), x -> x.high(0), 4);
        afterNone("she lives higher", four(x -> x.move(1, 2), floods(4)), x -> x.high(1));
        after("another flood where one is undone", four(x -> x.undo(0), floods(6)), x -> x.high(0), 6);
        after("gone on from", four(x -> x.keep(0), x -> x.undo(0), floods(6), x -> x.on(0)), x -> x.high(0), 4);
        afterNone("of another DELTA", four(begun("d0000000v010"), floods(4)), x -> x.high(0));
        after("asked() stays", four(x -> x.woman(1, 2), x -> x.high(0)), x -> x.asked(), 9);
        refused("of no YEAR", four(), x -> x.high(1), BAD);

        says("BAD.");
        onNewRefused("YEAR 0", x -> x.high(0), BAD);
        after("YEAR 7", land(ONE, floods(1, 2, 3, 4, 5, 6, 7, 8)), x -> x.high(7), 8);
        refusedEach("YEAR", four(), y -> x -> x.high(y), -1, 1, 8, LEAST, MOST);
        refused("a YEAR that is undone", four(x -> x.undo(0)), x -> x.high(0), BAD);
    }

    // ---- 25

    private static void look() {
        says("int look(int set, int y): The WOMAN not in a set (bits) whose HEM, looked at besides, would tell most of a YEAR: "
            + "the greatest part of the HEIGHTS that these know, by which she would have one and the same HEM, is least (the "
            + "first); that part by asked().");
        onNew("no YEAR", x -> x.look(0, 0), BAD);
        // Of 21 HEIGHTS the greatest parts are 17 (from 4 on), 9 (from 12 on), 9 (up to 8), 21.
        afterTells("of nobody: 1 is the first of two", four(), x -> x.look(0, 0), 1, 9);
        afterTells("of 1, who knows: each has a part of 1", four(), x -> x.look(2, 0), 0, 1);
        afterTells("of 0, 1", four(), x -> x.look(3, 0), 2, 1);
        afterTells("of 0, who knows 4 to 20: 1 has 9 alike, 2 has 6", four(), x -> x.look(1, 0), 2, 6);
        afterTells("of 2, who knows 0 to 8: 1 has 4 alike", four(), x -> x.look(4, 0), 1, 4);
        afterTells("of 1, 2", four(), x -> x.look(6, 0), 0, 1);
        afterTells("of 0, 1, 2: 3 is left", four(), x -> x.look(7, 0), 3, 1);
        afterTells("of all but 2", four(), x -> x.look(11, 0), 2, 1);
        afterTells("of 3, who tells nothing", four(), x -> x.look(8, 0), 1, 9);
        afterTells("of 0, 3", land(FOUR, floods(1)), x -> x.look(9, 0), 1, 1);
        afterTells("a GIRL of HEM 10 by 9 to 20", land("d0000000g090", floods(0)), x -> x.look(0, 0), 0, 12);
        afterTells("a LIAR by her TUCK then", land("d0000000l093w050", floods(4), x -> x.undo(0), x -> x.tuck(1), floods(4)),
            x -> x.look(0, 0), 0, 12);
        afterTells("what is done since does not change it", four(x -> x.move(1, 5), x -> x.move(2, 5)), x -> x.look(0, 0),
            1, 9);
        afterTells("GROUND as it was", land("d0000009w080w190", x -> x.dyke(1), x -> x.dyke(1), x -> x.dyke(1), floods(4),
            x -> x.dyke(1)), x -> x.look(0, 0), 1, 9);
        afterTells("of the next YEAR, moved", four(x -> x.move(1, 0), floods(4)), x -> x.look(0, 1), 2, 9);
        afterTells("gone on from", four(x -> x.keep(0), x -> x.undo(0), x -> x.move(1, 0), floods(4), x -> x.on(0)),
            x -> x.look(0, 0), 1, 9);
        afterTells("of another DELTA", four(begun("d0000000w010w020"), floods(4)), x -> x.look(0, 0), 1, 19);
        refused("what was told stays", four(x -> x.look(0, 0)), x -> x.look(0, 1), BAD);

        says("NONE: all are in it.");
        onNew("nobody's YEAR is none", x -> x.look(0, 0), BAD);
        afterNone("all of four", four(), x -> x.look(15, 0));
        afterNone("the only one", land(ONE, floods(4)), x -> x.look(1, 0));
        after("what was told stays", four(x -> x.look(0, 0), x -> x.look(15, 0)), x -> x.asked(), 9);
        after("one is not", four(), x -> x.look(14, 0), 0);
        refused("all, but the YEAR is none", four(), x -> x.look(15, 1), BAD);

        says("BAD.");
        onNewRefused("no WOMEN, no YEAR", x -> x.look(0, 0), BAD);
        after("0 is a set", four(), x -> x.look(0, 0), 1);
        refusedEach("a set of four:", four(), set -> x -> x.look(set, 0), -1, 16, LEAST, MOST);
        refusedEach("YEAR", four(), y -> x -> x.look(0, y), -1, 1, LEAST, MOST);
    }

    // ---- 26

    private static void looks() {
        says("int looks(int y): The fewest WOMEN who know as much of a YEAR as all do; which by asked() (bits; of like few the "
            + "least number).");
        onNew("no YEAR", x -> x.looks(0), BAD);
        afterTells("1 knows all", four(), x -> x.looks(0), 1, 2);
        afterTells("0, 1 know it, 0 is less", land(FOUR, floods(3)), x -> x.looks(0), 1, 1);
        afterTells("two, of whom neither knows all", land("d0500000w050w190", floods(5)), x -> x.looks(0), 2, 3);
        afterTells("two of three, the least number", land("d0500000v010w190w050w050", floods(5)), x -> x.looks(0), 2, 6);
        afterTells("the last one", land("d0000000w010w020w030", floods(9)), x -> x.looks(0), 1, 4);
        afterTells("as all do is not all", land("d9000000w010w010", floods(5)), x -> x.looks(0), 1, 1);
        afterTells("nobody tells anything", land("d0000000v010v010", floods(9)), x -> x.looks(0), 0, 0);
        afterTells("what is done since does not change it", four(x -> x.move(1, 5), x -> x.move(0, 1)), x -> x.looks(0), 1, 2);
        afterTells("the next YEAR, moved", four(x -> x.move(1, 0), x -> x.move(0, 1), floods(6)), x -> x.looks(1), 1, 1);
        afterTells("another flood where one is undone", four(x -> x.undo(0), floods(3)), x -> x.looks(0), 1, 1);
        afterTells("gone on from", four(x -> x.keep(0), x -> x.undo(0), floods(3), x -> x.on(0)), x -> x.looks(0), 1, 2);
        afterTells("of another DELTA", four(begun("d0500000w050w190"), floods(5)), x -> x.looks(0), 2, 3);
        refused("what was told stays", four(x -> x.looks(0)), x -> x.looks(1), BAD);

        says("BAD.");
        onNewRefused("YEAR 0", x -> x.looks(0), BAD);
        after("YEAR 7", land(ONE, floods(1, 2, 3, 4, 5, 6, 7, 8)), x -> x.looks(7), 1);
        refusedEach("YEAR", four(), y -> x -> x.looks(y), -1, 1, 8, LEAST, MOST);
        refused("a YEAR that is undone", four(x -> x.undo(0)), x -> x.looks(0), BAD);
    }

    // ---- 27

    private static void line() {
        says("int line(int y): In how many changes of neighbours, at least, a line of WOMEN 0, 1, .. comes to stand by HEMS of "
            + "a YEAR (lesser ones first, of like ones lesser numbers); who is first then by asked().");
        onNew("no YEAR", x -> x.line(0), BAD);
        // HEMS 4, 1, 2, 0
        afterTells("3, 1, 2, 0: five changes", four(), x -> x.line(0), 5, 3);
        afterTells("they stand so", land("d0000000w010w020w030", floods(9)), x -> x.line(0), 0, 0);
        afterTells("the other way round", land("d0000000w030w020w010", floods(9)), x -> x.line(0), 3, 2);
        afterTells("like ones stay as they are", land("d0000000w020w010w020w010", floods(9)), x -> x.line(0), 3, 1);
        afterTells("all alike", land("d0000000w010w010w010", floods(9)), x -> x.line(0), 0, 0);
        afterTells("six the other way round", land("d0000000w060w050w040w030w020w010", floods(9)), x -> x.line(0), 15, 5);
        afterTells("by HEMS of another YEAR", land("d0000000w030b010", floods(9, 1)), x -> x.line(1), 0, 0);
        afterTells("what is done since does not change it", four(x -> x.move(0, 2), floods(0)), x -> x.line(0), 5, 3);
        // HEMS 0, 1, 2, 0
        afterTells("the next YEAR, moved", four(x -> x.move(0, 2), floods(4)), x -> x.line(1), 2, 0);
        afterTells("another flood where one is undone", four(x -> x.undo(0), floods(0)), x -> x.line(0), 1, 0);
        afterTells("gone on from", four(x -> x.keep(0), x -> x.undo(0), floods(0), x -> x.on(0)), x -> x.line(0), 5, 3);
        afterTells("of another DELTA", four(begun("d0000000w020w010"), floods(9)), x -> x.line(0), 1, 1);
        refused("what was told stays", four(x -> x.line(0)), x -> x.line(1), BAD);

        says("BAD.");
        onNewRefused("YEAR 0", x -> x.line(0), BAD);
        after("YEAR 7", land("d0000000w020w010", floods(1, 2, 3, 4, 5, 6, 7, 8)), x -> x.line(7), 1);
        refusedEach("YEAR", four(), y -> x -> x.line(y), -1, 1, 8, LEAST, MOST);
        refused("a YEAR that is undone", four(x -> x.undo(0)), x -> x.line(0), BAD);
    }

    // ---- 28

    /** TALL 5, TUCK 1, GROUND 2; in YEAR 0. HEMS by 6: 4, 4, 3, 2, 5, 4; by 3: 1, 2, 0, 1, 3, 1. */
    private static Made one(Call... steps) {
        return land("d2500001 w051 b590", steps);
    }

    private static void kinds() {
        says("int kinds(int i, int r): KINDS (bits) that a WOMAN can be of by these.");
        onNew("nobody", x -> x.kinds(0, 0), BAD);
        int[] sixes = {0, 0, 1 << 3, 1 << 2, 1 + 2 + 32, 1 << 4};
        for (int v = 0; v < 6; v++) {
            after("by 6 a HEM of " + v, one(fill(0, 6, v)), x -> x.kinds(0, 0), sixes[v]);
        }
        int[] threes = {1 << 2, 1 + 8 + 32, 1 << 1, 1 << 4, 0};
        for (int v = 0; v < 5; v++) {
            after("by 3 a HEM of " + v, one(fill(0, 3, v)), x -> x.kinds(0, 0), threes[v]);
        }
        after("by 6 of 4, by 3 of 1", one(fill(0, 6, 4, 3, 1)), x -> x.kinds(0, 0), 1 + 32);
        after("by 6 of 4, by 3 of 1, the other way round", one(fill(0, 3, 1, 6, 4)), x -> x.kinds(0, 0), 1 + 32);
        after("by 6 of 4, by 3 of 3: none", one(fill(0, 6, 4, 3, 3)), x -> x.kinds(0, 0), 0);
        after("a ROW without places: all", one(x -> x.row(0, 0)), x -> x.kinds(0, 0), 63);
        after("a second pair of HEIGHT 20", one(fill(0, 6, 4, 20, 5)), x -> x.kinds(0, 0), 1 + 2 + 32);
        after("whatever she is", one(fill(0, 3, 3)), x -> x.kinds(1, 0), 1 + 2 + 4 + 8 + 32);
        after("laid anew", one(fill(0, 6, 4), x -> x.lay(0, 1, 3)), x -> x.kinds(0, 0), 1 << 2);
        after("a YEAR of an odd number is due", one(fill(0, 6, 3), floods(9)), x -> x.kinds(0, 0), (1 << 2) + (1 << 5));
        after("moved", one(fill(0, 6, 1), x -> x.move(0, 1)), x -> x.kinds(0, 0), 1 + 8 + 32);
        after("a dyke", one(fill(0, 6, 2), x -> x.dyke(0)), x -> x.kinds(0, 0), (1 << 2) + (1 << 3));
        after("a TUCK", one(fill(0, 6, 2), x -> x.tuck(0)), x -> x.kinds(0, 0), (1 << 2) + (1 << 3));
        after("undone", one(fill(0, 6, 2), x -> x.tuck(0), x -> x.undo(0)), x -> x.kinds(0, 0), 1 << 3);
        after("gone on from", one(fill(0, 6, 2), x -> x.tuck(0), x -> x.keep(1), x -> x.undo(0), x -> x.on(1)),
            x -> x.kinds(0, 0), (1 << 2) + (1 << 3));
        after("of another DELTA", one(fill(0, 6, 2), begun("d0000000w050")), x -> x.kinds(0, 0), 1 << 3);
        after("asked() stays", one(fill(0, 6, 4), x -> x.woman(0, 2), x -> x.kinds(0, 0)), x -> x.asked(), 5);
        refused("of a WOMAN that is none", one(fill(0, 6, 4)), x -> x.kinds(2, 0), BAD);
    }

    private static void kindsRefused() {
        says("BAD; NOTHING; SIZE: not by pairs (a ROW without places is well); UNLIKE: a number that is none.");
        onNewRefused("WOMAN 0", x -> x.kinds(0, 0), BAD);
        pairsRefused((i, r) -> x -> x.kinds(i, r), 63);

        says("(In this order.)");
        onNewRefused("BAD is ahead of NOTHING", x -> x.kinds(0, 0), BAD);
        pairsInOrder((i, r) -> x -> x.kinds(i, r));
    }

    interface Pairs {
        Call by(int i, int r);
    }

    private static void pairsRefused(Pairs call, int ofNone) {
        after("a ROW without places is well", one(x -> x.row(0, 0)), call.by(0, 0), ofNone);
        refusedEach("WOMAN", one(fill(0, 6, 4)), i -> call.by(i, 0), -1, 2, LEAST, MOST);
        refusedEach("ROW", one(fill(0, 6, 4)), r -> call.by(0, r), -1, 6, LEAST, MOST);
        finds("a missing ROW", one(fill(0, 6, 4)), call.by(0, 1), NOTHING);
        finds("a torn ROW", one(fill(0, 6, 4), x -> x.tear(0)), call.by(0, 0), NOTHING);
        finds("one place", one(fill(0, 6)), call.by(0, 0), SIZE);
        finds("39 places", one(x -> x.row(0, 39)), call.by(0, 0), SIZE);
        int[][] none = {{-1, 4}, {21, 4}, {LEAST, 4}, {MOST, 4}, {6, -1}, {6, 11}, {6, LEAST}, {6, MOST}};
        for (int[] pair : none) {
            finds("no pair: " + pair[0] + ", " + pair[1], one(fill(0, pair)), call.by(0, 0), UNLIKE);
            finds("no second pair: " + pair[0] + ", " + pair[1], one(fill(0, 3, 3, pair[0], pair[1])), call.by(0, 0), UNLIKE);
        }
        finds("the last of 20 pairs", one(x -> x.row(0, 40), x -> x.lay(0, 39, 11)), call.by(0, 0), UNLIKE);
    }

    private static void pairsInOrder(Pairs call) {
        after("BAD of a WOMAN is ahead of SIZE", one(fill(0, 6)), call.by(2, 0), BAD);
        after("BAD of a WOMAN is ahead of UNLIKE", one(fill(0, 6, 11)), call.by(2, 0), BAD);
        after("BAD of a ROW is ahead of it all", one(), call.by(0, 6), BAD);
        refused("BAD of a WOMAN is ahead of NOTHING", one(), call.by(2, 1), BAD);
        finds("SIZE is ahead of UNLIKE", one(fill(0, 21, 11, 21)), call.by(0, 0), SIZE);
    }

    // ---- 29

    private static void test() {
        says("int test(int i, int r): The HEIGHT (0 .. 20) by whose HEM these KINDS are told apart best: the greatest part of "
            + "those alike is least (the first); that part by asked().");
        onNew("nobody", x -> x.test(0, 0), BAD);
        // HEMS by 0: 0, 2, 0, 0, 3, 0; by 3: 1, 2, 0, 1, 3, 1; by 5: 3, 3, 2, 2, 4, 3; by 6: 4, 4, 3, 2, 5, 4.
        afterTells("all KINDS: 3 alike from 3 on", one(x -> x.row(0, 0)), x -> x.test(0, 0), 3, 3);
        afterTells("WOMAN, BRIDE, AUNT: 2 alike already by 0", one(fill(0, 6, 4)), x -> x.test(0, 0), 0, 2);
        afterTells("WOMAN, AUNT: never", one(fill(0, 6, 4, 3, 1)), x -> x.test(0, 0), 0, 2);
        afterTells("WOMAN, WIDOW, AUNT: by 5", one(fill(0, 3, 1)), x -> x.test(0, 0), 5, 2);
        afterTells("one KIND: by 0", one(fill(0, 6, 2)), x -> x.test(0, 0), 0, 1);
        afterTells("a YEAR of an odd number is due: LIAR, AUNT never", one(fill(0, 6, 3), floods(9)), x -> x.test(0, 0), 0, 2);
        afterTells("of another DELTA, YEAR 1", one(x -> x.row(0, 0), begun("d0000000w053"), floods(1)), x -> x.test(0, 0), 1,
            2);
        // WOMAN, BRIDE, WIDOW: by 0: 0, 2, 0; by 5: 5, 5, 4
        afterTells("the last KIND is not of the greatest part", land("d0000000w093", fill(0, 3, 3), floods(1)),
            x -> x.test(0, 0), 0, 2);
        afterTells("GROUND 9", land("d9000000v093", fill(0, 0, 0)), x -> x.test(0, 0), 14, 2);
        afterTells("moved", one(x -> x.row(0, 0), x -> x.move(0, 1)), x -> x.test(0, 0), 6, 3);
        afterTells("undone", one(x -> x.row(0, 0), x -> x.move(0, 1), x -> x.undo(0)), x -> x.test(0, 0), 3, 3);
        afterTells("gone on from", one(x -> x.row(0, 0), x -> x.move(0, 1), x -> x.keep(1), x -> x.undo(0), x -> x.on(1)),
            x -> x.test(0, 0), 6, 3);
        refused("what was told stays", one(x -> x.row(0, 0), x -> x.test(0, 0)), x -> x.test(2, 0), BAD);

        says("NONE: there is no KIND.");
        onNew("nobody", x -> x.test(0, 0), BAD);
        afterNone("by 6 of 0", one(fill(0, 6, 0)), x -> x.test(0, 0));
        afterNone("by 6 of 4, by 3 of 3", one(fill(0, 6, 4, 3, 3)), x -> x.test(0, 0));
        after("what was told stays", one(fill(0, 6, 4), fill(1, 6, 0), x -> x.test(0, 0), x -> x.test(0, 1)),
            x -> x.asked(), 2);
        refused("a WOMAN that is none", one(fill(0, 6, 0)), x -> x.test(2, 0), BAD);
    }

    private static void testRefused() {
        says("BAD; NOTHING; SIZE; UNLIKE.");
        onNewRefused("WOMAN 0", x -> x.test(0, 0), BAD);
        pairsRefused((i, r) -> x -> x.test(i, r), 3);

        says("(In this order.)");
        onNewRefused("BAD is ahead of NOTHING", x -> x.test(0, 0), BAD);
        pairsInOrder((i, r) -> x -> x.test(i, r));
    }

    // ---- 30

    /** HEMS of four WOMEN: 5, 1; 5, 1; 5, 2; 2, 2. */
    private static Made skirts(Call... steps) {
        return land("d0300000w050l050b050b150", floods(5, 1), each(steps));
    }

    private static void whose() {
        says("int whose(int r): WOMEN (bits) whose skirt it may be: all their HEMS, of YEARS 0, 1, .., are as in a ROW as far "
            + "as it goes (0 to 8); whose HEMS are just these by asked() (bits; of a ROW without places all WOMEN, these by "
            + "asked() only if no YEAR is past).");
        onNew("no WOMEN", x -> x.whose(0), STATE);
        afterTells("5", skirts(fill(0, 5)), x -> x.whose(0), 1 + 2 + 4, 0);
        afterTells("2", skirts(fill(0, 2)), x -> x.whose(0), 8, 0);
        afterTells("5, 1", skirts(fill(0, 5, 1)), x -> x.whose(0), 1 + 2, 1 + 2);
        afterTells("5, 2", skirts(fill(0, 5, 2)), x -> x.whose(0), 4, 4);
        afterTells("2, 2", skirts(fill(0, 2, 2)), x -> x.whose(0), 8, 8);
        afterTells("2, 1: nobody's", skirts(fill(0, 2, 1)), x -> x.whose(0), 0, 0);
        afterTells("numbers that are no HEMS: nobody's", skirts(fill(0, -1, MOST)), x -> x.whose(0), 0, 0);
        afterTells("without places", skirts(x -> x.row(0, 0)), x -> x.whose(0), 15, 0);
        afterTells("without places, no YEAR is past", skirts(x -> x.row(0, 0), x -> x.undo(0)), x -> x.whose(0), 15, 15);
        afterTells("eight YEARS", land("d0000000w090w080", floods(1, 2, 3, 4, 5, 6, 7, 9), fill(0, 1, 2, 3, 4, 5, 6, 7, 9)),
            x -> x.whose(0), 1, 1);
        afterTells("seven of eight", land("d0000000w090w080", floods(1, 2, 3, 4, 5, 6, 7, 9), fill(0, 1, 2, 3, 4, 5, 6, 7)),
            x -> x.whose(0), 3, 0);
        afterTells("a YEAR more", skirts(fill(0, 5, 1), floods(9)), x -> x.whose(0), 3, 0);
        afterTells("a YEAR less", skirts(fill(0, 5), x -> x.undo(1)), x -> x.whose(0), 7, 7);
        afterTells("moved since", skirts(fill(0, 5, 1), x -> x.move(0, 1), x -> x.tuck(1)), x -> x.whose(0), 3, 3);
        afterTells("laid anew", skirts(fill(0, 5, 1), x -> x.lay(0, 1, 2)), x -> x.whose(0), 4, 4);
        afterTells("gone on from", skirts(fill(0, 5, 1), x -> x.keep(0), x -> x.undo(0), floods(2, 2), x -> x.on(0)),
            x -> x.whose(0), 3, 3);
        afterTells("of another DELTA", skirts(fill(0, 2), begun("d0000000b010w010"), floods(0)), x -> x.whose(0), 1, 1);
        finds("what was told stays", skirts(fill(0, 5, 1), x -> x.whose(0), x -> x.undo(1)), x -> x.whose(0), SIZE);
    }

    private static void whoseRefused() {
        says("BAD; STATE: no WOMEN; NOTHING; SIZE: more than YEARS past.");
        onNewRefused("ROW 6", x -> x.whose(6), BAD);
        onNewRefused("no WOMEN", x -> x.whose(0), STATE);
        after("as many as YEARS past", skirts(fill(0, 5, 1)), x -> x.whose(0), 3);
        refusedEach("ROW", skirts(), r -> x -> x.whose(r), -1, 6, LEAST, MOST);
        refused("no WOMEN where a ROW is", bare(x -> x.row(0, 0)), x -> x.whose(0), STATE);
        finds("missing", skirts(), x -> x.whose(0), NOTHING);
        finds("torn", skirts(fill(0, 5), x -> x.tear(0)), x -> x.whose(0), NOTHING);
        finds("three of two", skirts(fill(0, 5, 1, 0)), x -> x.whose(0), SIZE);
        finds("40 of two", skirts(x -> x.row(0, 40)), x -> x.whose(0), SIZE);
        finds("one of none", land(ONE, fill(0, 5)), x -> x.whose(0), SIZE);
        finds("nine of eight", land(ONE, floods(new int[8]), x -> x.row(0, 9)), x -> x.whose(0), SIZE);

        says("(In this order.)");
        onNewRefused("BAD is ahead of STATE", x -> x.whose(-1), BAD);
        onNewRefused("STATE is ahead of NOTHING", x -> x.whose(5), STATE);
        after("STATE is ahead of SIZE", bare(x -> x.row(0, 3)), x -> x.whose(0), STATE);
        refused("BAD where WOMEN are", skirts(), x -> x.whose(6), BAD);
        finds("NOTHING where no YEAR is past", land(ONE), x -> x.whose(0), NOTHING);
    }
}
