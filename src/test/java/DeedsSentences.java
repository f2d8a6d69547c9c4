/** The document from "Promise 16" to "Promise 22": DEEDS, undone, kept, gone on from. */
final class DeedsSentences extends Sentences {
    private static final String ONE = "d0000000w090";
    private static final String THREE = "d2470003w051b192l292";

    static void all() {
        flood();
        floodRefused();
        move();
        moveRefused();
        dyke();
        dykeRefused();
        tuck();
        tuckRefused();
        undo();
        undoEach();
        keep();
        on();
        onRefused();
    }

    // ---- 16

    private static void flood() {
        says("int flood(int f): A flood of HEIGHT f: how many are WET.");
        onNew("nobody", x -> x.flood(9), STATE);
        int[] heights = {0, 2, 3, 4, 5, 7, 8, 20};
        int[] wet = {0, 0, 1, 1, 2, 2, 3, 3};
        for (int k = 0; k < heights.length; k++) {
            int f = heights[k];
            after("HEIGHT " + f, land(THREE), x -> x.flood(f), wet[k]);
        }
        after("by how WET, not by HEMS: a BRIDE's of 2", land("d9000000b090"), x -> x.flood(9), 0);
        after("by how WET, not by HEMS: a LIAR's of 0", land("d0000000l093"), x -> x.flood(1), 1);
        after("moved", land(THREE, x -> x.move(0, 5)), x -> x.flood(2), 1);
        after("a dyke", land(THREE, x -> x.dyke(0)), x -> x.flood(3), 0);
        after("the dyke is undone", land(THREE, x -> x.dyke(0), x -> x.undo(0)), x -> x.flood(3), 1);
        after("gone on from", land(THREE, x -> x.move(0, 5), x -> x.keep(0), x -> x.undo(0), x -> x.on(0)),
            x -> x.flood(1), 1);
        after("of another DELTA", land(THREE, begun("d0000000w010w010w010w010w010w010")), x -> x.flood(1), 6);
        after("HEIGHT of the last flood", land(THREE, floods(3, 8, 5)), x -> x.count(6), 5);
        refused("a HEIGHT that is none", land(THREE), x -> x.flood(21), BAD);
    }

    private static void floodRefused() {
        says("BAD; STATE: no WOMEN, 8 YEARS are past; FULL: 40 DEEDS.");
        onNewRefused("no WOMEN", x -> x.flood(0), STATE);
        onNewRefused("a HEIGHT that is none", x -> x.flood(-1), BAD);
        after("7 YEARS are past", land(ONE, floods(new int[7])), x -> x.flood(1), 1);
        after("8 were, one is undone", land(ONE, floods(new int[8]), x -> x.undo(7)), x -> x.flood(1), 1);
        after("39 DEEDS", land(ONE, moves(39)), x -> x.flood(1), 1);
        refusedEach("HEIGHT", land(ONE), f -> x -> x.flood(f), -1, 21, LEAST, MOST);
        refused("8 YEARS are past", land(ONE, floods(new int[8])), x -> x.flood(1), STATE);
        refused("40 DEEDS", land(ONE, moves(40)), x -> x.flood(1), FULL);
        refused("BAD is ahead of 8 YEARS", land(ONE, floods(new int[8])), x -> x.flood(21), BAD);

        says("(FULL last.)");
        onNewRefused("no WOMEN", x -> x.flood(20), STATE);
        after("none of it any more", land(ONE, floods(new int[8]), moves(32), x -> x.undo(7)), x -> x.flood(1), 1);
        refused("STATE is ahead: 8 YEARS", land(ONE, floods(new int[8]), moves(32)), x -> x.flood(1), STATE);
        refused("BAD is ahead", land(ONE, moves(40)), x -> x.flood(21), BAD);
    }

    // ---- 17

    private static void move() {
        says("int move(int i, int place): A WOMAN moves: the PLACE ahead.");
        onNew("nobody", x -> x.move(0, 1), BAD);
        after("from 1 to 5", land(THREE), x -> x.move(1, 5), 1);
        after("from 0 to 3", land(THREE), x -> x.move(0, 3), 0);
        after("twice", land(THREE, x -> x.move(1, 5)), x -> x.move(1, 0), 5);
        afterTells("she is there", land(THREE, x -> x.move(1, 5)), x -> x.woman(1, 1), 1, 5);
        afterTells("the others are not", land(THREE, x -> x.move(1, 5)), x -> x.woman(2, 1), 1, 2);
        after("her WET is by that GROUND", land(THREE, x -> x.move(1, 2)), x -> x.would(1, 10), 3);
        after("undone", land(THREE, x -> x.move(1, 5), x -> x.undo(0)), x -> x.move(1, 4), 1);
        after("gone on from", land(THREE, x -> x.move(1, 5), x -> x.keep(0), x -> x.move(1, 3), x -> x.on(0)),
            x -> x.move(1, 4), 5);
        after("of another DELTA", land(THREE, x -> x.move(1, 5), begun("d0000000w010w310")), x -> x.move(1, 5), 3);
        refused("she stays where she is", land(THREE), x -> x.move(1, 6), BAD);
    }

    private static void moveRefused() {
        says("BAD; STATE: she is there; FULL.");
        onNewRefused("WOMAN 0", x -> x.move(0, 0), BAD);
        after("she is there no more", land(THREE, x -> x.move(1, 5)), x -> x.move(1, 1), 5);
        after("another one is there", land(THREE), x -> x.move(1, 2), 1);
        after("39 DEEDS", land(ONE, moves(39)), x -> x.move(0, 5), 1);
        refusedEach("WOMAN", land(THREE), i -> x -> x.move(i, 5), -1, 3, LEAST, MOST);
        refusedEach("PLACE", land(THREE), place -> x -> x.move(0, place), -1, 6, LEAST, MOST);
        refused("she is there", land(THREE), x -> x.move(1, 1), STATE);
        refused("she is there by a move", land(THREE, x -> x.move(1, 4)), x -> x.move(1, 4), STATE);
        refused("40 DEEDS", land(ONE, moves(40)), x -> x.move(0, 5), FULL);

        says("(FULL last.)");
        onNewRefused("WOMAN 0", x -> x.move(0, 1), BAD);
        after("one is undone", land(ONE, moves(40), x -> x.undo(39)), x -> x.move(0, 5), 1);
        refused("STATE is ahead", land(ONE, moves(40)), x -> x.move(0, 0), STATE);
        refused("BAD is ahead", land(ONE, moves(40)), x -> x.move(0, 6), BAD);
    }

    // ---- 18

    private static void dyke() {
        says("int dyke(int place): A dyke: the GROUND of a PLACE then.");
        onNew("no WOMEN", x -> x.dyke(0), STATE);
        for (int p = 0; p < 6; p++) {
            int place = p, then = new int[] {3, 5, 8, 1, 1, 1}[p];
            after("PLACE " + p, land(THREE), x -> x.dyke(place), then);
            after("once more, PLACE " + p, land(THREE, x -> x.dyke(place)), x -> x.dyke(place), then + 1);
        }
        after("another one's stays", land(THREE, x -> x.dyke(0)), x -> x.dyke(1), 5);
        after("EARTH", land(THREE, x -> x.dyke(0)), x -> x.count(3), 2);
        after("undone", land(THREE, x -> x.dyke(0), x -> x.undo(0)), x -> x.dyke(0), 3);
        after("EARTH when undone", land(THREE, x -> x.dyke(0), x -> x.undo(0)), x -> x.count(3), 3);
        after("gone on from", land(THREE, x -> x.dyke(0), x -> x.keep(0), x -> x.undo(0), x -> x.on(0)), x -> x.dyke(0), 4);
        after("of another DELTA", land(THREE, x -> x.dyke(0), begun("d8000001w010")), x -> x.dyke(0), 9);
        refused("a PLACE that is none", land(THREE), x -> x.dyke(6), BAD);
    }

    private static void dykeRefused() {
        says("BAD; STATE: no WOMEN, the GROUND is 9; SPENT: no EARTH; FULL.");
        onNewRefused("no WOMEN", x -> x.dyke(5), STATE);
        onNewRefused("a PLACE that is none", x -> x.dyke(-1), BAD);
        after("the last EARTH", land("d0000001w010"), x -> x.dyke(0), 1);
        after("39 DEEDS", land("d0000001w010", moves(39)), x -> x.dyke(0), 1);
        refusedEach("PLACE", land(THREE), place -> x -> x.dyke(place), -1, 6, LEAST, MOST);
        refused("the GROUND is 9", land("d0900001w010"), x -> x.dyke(1), STATE);
        refused("the GROUND is 9 by a dyke", land("d0800002w010", x -> x.dyke(1)), x -> x.dyke(1), STATE);
        refused("no EARTH", land(ONE), x -> x.dyke(1), SPENT);
        refused("no EARTH any more", land("d0000001w010", x -> x.dyke(1)), x -> x.dyke(1), SPENT);
        refused("STATE is ahead of SPENT", land("d0900000w010"), x -> x.dyke(1), STATE);
        refused("40 DEEDS", land("d0000001w010", moves(40)), x -> x.dyke(0), FULL);

        says("(FULL last.)");
        onNewRefused("no WOMEN", x -> x.dyke(1), STATE);
        after("one is undone", land("d0000001w010", moves(40), x -> x.undo(39)), x -> x.dyke(0), 1);
        refused("STATE is ahead", land("d0900001w010", moves(40)), x -> x.dyke(1), STATE);
        refused("SPENT is ahead", land(ONE, moves(40)), x -> x.dyke(1), SPENT);
        refused("BAD is ahead", land("d0000001w010", moves(40)), x -> x.dyke(6), BAD);
    }

    // ---- 19

    private static void tuck() {
        says("int tuck(int i): A TUCK more: how many then.");
        onNew("nobody", x -> x.tuck(0), BAD);
        after("1 ahead", land(THREE), x -> x.tuck(0), 2);
        after("2 ahead", land(THREE), x -> x.tuck(1), 3);
        after("none ahead", land(ONE), x -> x.tuck(0), 1);
        after("two more", land(ONE, x -> x.tuck(0), x -> x.tuck(0)), x -> x.tuck(0), 3);
        after("another one's stays", land(THREE, x -> x.tuck(0)), x -> x.tuck(1), 3);
        afterTells("it is told", land(THREE, x -> x.tuck(0)), x -> x.woman(0, 3), 1, 2);
        after("a LIAR's HEM is less by it", land(THREE, x -> x.tuck(2)), x -> x.would(2, 12), 2);
        after("undone", land(THREE, x -> x.tuck(0), x -> x.undo(0)), x -> x.tuck(0), 2);
        after("gone on from", land(THREE, x -> x.tuck(0), x -> x.keep(0), x -> x.undo(0), x -> x.on(0)), x -> x.tuck(0), 3);
        after("of another DELTA", land(THREE, x -> x.tuck(0), begun(ONE)), x -> x.tuck(0), 1);
        refused("a WOMAN that is none", land(THREE), x -> x.tuck(3), BAD);
    }

    private static void tuckRefused() {
        says("BAD; STATE: 3; FULL.");
        onNewRefused("WOMAN 0", x -> x.tuck(0), BAD);
        after("39 DEEDS", land(ONE, moves(39)), x -> x.tuck(0), 1);
        after("3 were, one is undone", land(ONE, x -> x.tuck(0), x -> x.tuck(0), x -> x.tuck(0), x -> x.undo(2)),
            x -> x.tuck(0), 3);
        refusedEach("WOMAN", land(THREE), i -> x -> x.tuck(i), -1, 3, LEAST, MOST);
        refused("none, where one of TUCK 3 was", land("d0000000w593w593", begun(ONE)), x -> x.tuck(1), BAD);
        refused("3", land("d0000000w013"), x -> x.tuck(0), STATE);
        refused("3 by a DEED", land(THREE, x -> x.tuck(1)), x -> x.tuck(1), STATE);
        refused("40 DEEDS", land(ONE, moves(40)), x -> x.tuck(0), FULL);

        says("(FULL last.)");
        onNewRefused("WOMAN 1", x -> x.tuck(1), BAD);
        after("one is undone", land(ONE, moves(40), x -> x.undo(39)), x -> x.tuck(0), 1);
        refused("STATE is ahead", land("d0000000w013", moves(40)), x -> x.tuck(0), STATE);
        refused("BAD is ahead", land(ONE, moves(40)), x -> x.tuck(1), BAD);
    }

    // ---- 20

    private static void undo() {
        says("int undo(int n): DEEDS from number n on (n 0 to how many there are: then 0) are undone: how many.");
        onNew("none", x -> x.undo(0), 0);
        Made five = land(THREE, x -> x.flood(9), x -> x.move(0, 3), x -> x.dyke(1), x -> x.tuck(2), x -> x.flood(5));
        for (int n = 0; n <= 5; n++) {
            int from = n;
            after("from " + n + " on", five, x -> x.undo(from), 5 - n);
            after("left from " + n + " on", five, x -> x.undo(from) * 0 + x.count(2), n);
        }
        after("twice", five, x -> x.undo(4) * 10 + x.undo(2), 12);
        after("done again", land(THREE, moves(5), x -> x.undo(2), moves(4)), x -> x.undo(1), 5);
        afterTells("the 40th: WOMAN 1 is where she was", land("d0000000w010w410", moves(39), x -> x.move(1, 5), x -> x.undo(39)),
            x -> x.woman(1, 1), 1, 4);
        afterTells("the 40th: WOMAN 0 stays", land("d0000000w010w410", moves(39), x -> x.move(1, 5), x -> x.undo(39)),
            x -> x.woman(0, 1), 1, 1);
        after("a lot each", land(THREE, x -> x.lots(7, 99)), x -> x.undo(3), 4);
        after("gone on from", land(THREE, moves(5), x -> x.keep(0), x -> x.undo(0), x -> x.on(0)), x -> x.undo(2), 3);
        after("the kept one stays", land(THREE, moves(5), x -> x.keep(0), x -> x.undo(0)), x -> x.on(0), 5);
        refused("nothing is undone", five, x -> x.undo(6), BAD);

        says("BAD.");
        onNewRefused("from 1 on", x -> x.undo(1), BAD);
        after("from 40 on of 40", land(ONE, moves(40)), x -> x.undo(40), 0);
        refusedEach("of five, from", five, n -> x -> x.undo(n), -1, 6, LEAST, MOST);
        refused("those of another DELTA", land(ONE, moves(3), begun(ONE)), x -> x.undo(1), BAD);
    }

    /** Each DEED undone one by one: all is as it was ahead of it. */
    private static void undoEach() {
        String[] names = {"flood", "move", "dyke", "tuck", "flood of 0", "dyke to 9", "move back", "lot"};
        Call[] deeds = {x -> x.flood(9), x -> x.move(0, 2), x -> x.dyke(2), x -> x.tuck(2), x -> x.flood(0),
            x -> x.dyke(2), x -> x.move(0, 0), x -> x.lots(1, 5)};
        for (int k = 0; k < deeds.length; k++) {
            int last = k;
            test("promise 20", "undone: " + names[k], () -> {
                HemLine x = land(THREE).make();
                for (int d = 0; d < last; d++) {
                    deeds[d].on(x);
                }
                long digest = x.digest();
                deeds[last].on(x);
                is("changed", x.digest() == digest ? 1 : 0, 0);
                is("undo", x.undo(last), 1);
                is("digest()", x.digest(), digest);
            });
        }
    }

    // ---- 21, 22

    private static void keep() {
        says("int keep(int k): The DELTA (as it is, DEEDS) is kept in a place (0 .. 2): how many DEEDS.");
        onNew("none", x -> x.keep(0), STATE);
        for (int k = 0; k < 3; k++) {
            int place = k;
            after("place " + k, land(THREE, floods(9, 8)), x -> x.keep(place), 2);
            after("it is kept there, " + k, land(THREE, floods(9, 8), x -> x.keep(place), x -> x.undo(0)),
                x -> x.on(place), 2);
            after("it is counted, " + k, land(THREE, x -> x.keep(place)), x -> x.count(10), 1);
        }
        after("none done", land(THREE), x -> x.keep(0), 0);
        after("40 done", land(ONE, moves(40)), x -> x.keep(0), 40);
        after("three kept", land(THREE, x -> x.keep(0), x -> x.keep(1), x -> x.keep(2)), x -> x.count(10), 3);
        after("another one at the same place", land(THREE, floods(9), x -> x.keep(1), floods(8, 7), x -> x.keep(1)),
            x -> x.on(1), 3);
        after("others stay", land(THREE, floods(9), x -> x.keep(1), floods(8, 7), x -> x.keep(2)), x -> x.on(1), 1);
        after("the DELTA goes on", land(THREE, floods(9), x -> x.keep(1)), x -> x.flood(8), 3);
        refused("a place that is none", land(THREE), x -> x.keep(3), BAD);

        says("BAD; STATE: no WOMEN.");
        onNewRefused("no WOMEN", x -> x.keep(2), STATE);
        onNewRefused("BAD is ahead of no WOMEN", x -> x.keep(3), BAD);
        after("one WOMAN", land(ONE), x -> x.keep(2), 0);
        refusedEach("place", rich(), k -> x -> x.keep(k), -1, 3, LEAST, MOST);
        refused("no WOMEN by a FAULT", bare(x -> write(x, 0, "d0000000"), x -> x.delta(0)), x -> x.keep(0), STATE);
    }

    private static void on() {
        says("int on(int k): The DELTA is as it was kept: how many DEEDS.");
        onNew("none", x -> x.on(0), FINDING);
        Call[] done = {x -> x.flood(9), x -> x.move(0, 3), x -> x.dyke(1), x -> x.tuck(2), x -> x.flood(5), x -> x.keep(1),
            x -> x.undo(1), x -> x.tuck(1), x -> x.move(2, 5), x -> x.dyke(3), x -> x.flood(20), x -> x.flood(19)};
        Made kept = land(THREE, done);
        after("how many", kept, x -> x.on(1), 5);
        Made gone = land(THREE, each(done), x -> x.on(1));
        int[] counts = {3, 2, 5, 2, 14, 6, 5, 1, 0, 1, 1};
        for (int k = 0; k <= 10; k++) {
            int what = k;
            after("count " + k, gone, x -> x.count(what), counts[k]);
        }
        int[] hems = {5, 5, 5, 2, 0, 0};
        for (int k = 0; k < 6; k++) {
            int woman = k / 2, year = k % 2;
            after("HEM of WOMAN " + woman + " of YEAR " + year, gone, x -> x.hem(woman, year), hems[k]);
        }
        after("a LIAR's HEM by her TUCK then", land("d0000000l090", floods(5), x -> x.keep(1), x -> x.undo(0), x -> x.tuck(0),
            floods(5), x -> x.on(1)), x -> x.hem(0, 0), 5);
        after("its DEEDS are undone, whatever was done meanwhile", () -> {
            Call[] first = {x -> x.flood(9), x -> x.move(0, 5), x -> x.dyke(0), x -> x.tuck(0), x -> x.move(2, 0), x -> x.keep(1)};
            Call[] meanwhile = {x -> x.undo(0), x -> x.tuck(1), x -> x.flood(3), x -> x.move(1, 3), x -> x.dyke(2),
                x -> x.tuck(2), x -> x.on(1)};
            HemLine x = land(THREE, each(first), each(meanwhile)).make(), same = land(THREE, first).make();
            for (int n = 5; n > 0; n--) {
                is("digest() with DEEDS: " + n, x.digest(), same.digest());
                is("undo", x.undo(n - 1), same.undo(n - 1));
            }
            is("digest() without DEEDS", x.digest(), same.digest());
        });
        after("its DEEDS can be undone", gone, x -> x.undo(2) * 100 + x.count(3) * 10 + x.count(1), 331);
        after("it stays kept", gone, x -> x.undo(0) * 0 + x.on(1), 5);
        after("once more", land(THREE, each(done), x -> x.on(1), x -> x.flood(3), x -> x.keep(2), x -> x.on(1)),
            x -> x.on(2), 6);
        after("ROWS, TEXTS stay", () -> {
            HemLine x = rich(y -> y.lay(0, 0, 5), y -> y.on(1)).make();
            holds(x, 0, 5, -8, 9);
            is("count(9)", x.count(9), 3);
        });
        finds("the DELTA stays", kept, x -> x.on(2), NOTHING);
    }

    private static void onRefused() {
        says("BAD; NOTHING.");
        onNewRefused("place 3", x -> x.on(3), BAD);
        onNewFinds("place 0", x -> x.on(0), NOTHING);
        after("kept since", land(ONE, x -> x.on(2), x -> x.keep(2)), x -> x.on(2), 0);
        refusedEach("place", rich(), k -> x -> x.on(k), -1, 3, LEAST, MOST);
        finds("none is kept there", rich(), x -> x.on(2), NOTHING);
        finds("it went with another DELTA", rich(begun(ONE)), x -> x.on(1), NOTHING);
    }
}
