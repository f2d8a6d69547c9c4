/** Boundaries of promises 31 to 34: raise, dry, least, duel. */
public final class DykesBoundsTest extends Bounds {
    private static final int[] NO_HEIGHTS = {-1, 21, LEAST, MOST};
    private static final int[] NO_TURNS = {-1, 7, LEAST, MOST};
    private static final String ONE = "d0000000w010";

    public static void main(String[] args) {
        raise();
        raiseOfLikeWays();
        raiseByGround();
        raiseToRow();
        raiseRefused();
        dry();
        least();
        leastRefused();
        duelByNone();
        duelOfFirst();
        duelOfSecond();
        duelOfWater();
        duelOfGround();
        duelRefused();
        end();
    }

    // ---- raise

    private static void raises(String boundary, String signs, int n, int f, int wet, int... way) {
        test("31 raise", boundary, () -> {
            HemLine x = by(signs, fill(1, 4242), y -> y.at(1, 0)).make();
            is("answer", x.raise(n, f, 0), wet);
            is("asked()", x.asked(), 4242);
            holds(x, 0, way);
        });
    }

    private static void raise() {
        raises("0 dykes are the fewest", ONE, 0, 5, 5, 0, 0, 0, 0, 0, 0);
        raises("1 dyke", ONE, 1, 5, 4, 1, 0, 0, 0, 0, 0);
        raises("6 dykes are the most", ONE, 6, 9, 3, 6, 0, 0, 0, 0, 0);
        raises("HEIGHT 0 is the first", ONE, 0, 0, 0, 0, 0, 0, 0, 0, 0);
        raises("HEIGHT 20 is the last", ONE, 0, 20, 20, 0, 0, 0, 0, 0, 0);
        raises("at PLACE 5 where she lives", "d0000000w510", 6, 9, 3, 0, 0, 0, 0, 0, 6);
        raises("where most WOMEN live", "d0000000w010w110w110w210", 6, 9, 36 - 12, 0, 6, 0, 0, 0, 0);
        raises("six WOMEN at one PLACE", "d0000000w310w310w310w310w310w310", 6, 20, 84, 0, 0, 0, 6, 0, 0);
        raises("until they are dry", "d0000000w010w110w110w210", 6, 2, 0, 2, 2, 2, 0, 0, 0);
        raises("less than until they are dry", "d0000000w010w110w110w210", 5, 2, 1, 1, 2, 2, 0, 0, 0);
        raises("more than until they are dry", "d0000000w010w110w110w210", 6, 1, 0, 1, 1, 1, 0, 0, 3);
        raises("EARTH aside", "d0000001w010", 6, 9, 3, 6, 0, 0, 0, 0, 0);
        raises("each PLACE once", "d0000000w010w110w210w310w410w510", 6, 1, 0, 1, 1, 1, 1, 1, 1);
        raises("by how WET they are, not by HEMS", "d0000000g010w110w110", 1, 9, 25, 0, 1, 0, 0, 0, 0);
        test("31 raise", "where they live now", () -> {
            HemLine x = by(ONE, y -> y.move(0, 4)).make();
            is("answer", x.raise(2, 9, 0), 7);
            holds(x, 0, 0, 0, 0, 0, 2, 0);
        });
        test("31 raise", "the GROUND as now", () -> {
            HemLine x = by("d0000009w010", y -> y.dyke(0)).make();
            is("answer", x.raise(2, 3, 0), 0);
            holds(x, 0, 2, 0, 0, 0, 0, 0);
        });
    }

    private static void raiseOfLikeWays() {
        raises("of like ways the first: all at PLACE 5", "d0000000w010w510", 6, 20, 34, 0, 0, 0, 0, 0, 6);
        raises("of like ways the first: as few as may be at PLACE 0", "d0000000w010w510", 6, 4, 2, 2, 0, 0, 0, 0, 4);
        raises("of like ways the first: what is of no use at PLACE 5", ONE, 6, 0, 0, 0, 0, 0, 0, 0, 6);
        raises("of like ways the first: a use, the rest at PLACE 5", ONE, 6, 2, 0, 2, 0, 0, 0, 0, 4);
        raises("of like ways the first: PLACE 4 where PLACE 5 is 9", "d0000090w010", 3, 0, 0, 0, 0, 0, 0, 3, 0);
        raises("of like ways the first: PLACE 5 up to 9", "d0000070w010", 3, 0, 0, 0, 0, 0, 0, 1, 2);
        raises("of like ways the first: PLACES 1, 2", "d0000000w110w210", 3, 2, 1, 0, 1, 2, 0, 0, 0);
        raises("of like ways the first: PLACES 0, 1, 5", "d0000000w010w110w510", 4, 3, 5, 0, 1, 0, 0, 0, 3);
    }

    private static void raiseByGround() {
        raises("GROUND 9 at most: PLACE 0", "d8000000w010w010w110", 2, 20, 44 - 3, 1, 1, 0, 0, 0, 0);
        raises("GROUND 9 at most: from 3 on all six", "d3000000w010w010w110", 6, 20, 54 - 12, 6, 0, 0, 0, 0, 0);
        raises("GROUND 9 at most: from 4 on five of six", "d4000000w010w010w110", 6, 20, 52 - 11, 5, 1, 0, 0, 0, 0);
        raises("GROUND 9 already", "d9000000w010w010w110", 2, 20, 42 - 2, 0, 2, 0, 0, 0, 0);
        raises("just so much room, at one PLACE", "d9999390w010", 6, 20, 11, 0, 0, 0, 0, 6, 0);
        raises("just so much room, at each PLACE", "d8888880w010", 6, 20, 11, 1, 1, 1, 1, 1, 1);
        raises("no room, 0 dykes", "d9999990w010", 0, 20, 11, 0, 0, 0, 0, 0, 0);
        raises("room for 1", "d9999980w510", 1, 20, 11, 0, 0, 0, 0, 0, 1);
    }

    private static void raiseToRow() {
        String p = "31 raise";
        for (int k = 0; k < 6; k++) {
            int r = k;
            test(p, "to ROW " + r, () -> {
                HemLine x = by(ONE).make();
                is("answer", x.raise(6, 20, r), 14);
                is("count(8)", x.count(8), 1);
                holds(x, r, 6, 0, 0, 0, 0, 0);
            });
        }
        for (int n : new int[] {0, 5, 6, 7, 40}) {
            test(p, "a ROW of " + n + " is one of 6 then", () -> {
                HemLine x = by(ONE, y -> y.row(2, n), y -> y.row(3, n)).make();
                for (int i = 0; i < n; i++) {
                    x.lay(2, i, 77);
                }
                is("answer", x.raise(1, 20, 2), 19);
                holds(x, 2, 1, 0, 0, 0, 0, 0);
                holds(x, 3, new int[n]);
            });
        }
        test(p, "longer again it holds nothing of what was there", () -> {
            HemLine x = by(ONE, fill(2, 7, 7, 7, 7, 7, 7, 7, 7), y -> y.raise(1, 20, 2), y -> y.row(2, 8)).make();
            holds(x, 2, 0, 0, 0, 0, 0, 0, 0, 0);
        });
        test(p, "nothing but the ROW changes", () -> {
            HemLine x = rich(y -> y.row(5, 6)).make(), same = rich(fill(5, 6, 0, 0, 0, 0, 0), y -> y.at(0, 0)).make();
            x.raise(6, 20, 5);
            x.lay(5, 0, 6);
            for (int i = 1; i < 6; i++) {
                x.lay(5, i, 0);
            }
            x.at(0, 0);
            is("digest()", x.digest(), same.digest());
            is("asked()", x.asked(), 7);
            is("upper()", x.upper(), same.upper());
            is("undo(0)", x.undo(0), 5);
        });
    }

    private static void raiseRefused() {
        String p = "31 raise";
        Made full = by("d9999990w010", fill(0, 7));
        bad(p, "a number of dykes", rich(), n -> x -> x.raise(n, 5, 0), NO_TURNS);
        bad(p, "HEIGHT", rich(), f -> x -> x.raise(1, f, 0), NO_HEIGHTS);
        bad(p, "ROW", rich(), r -> x -> x.raise(1, 5, r), -1, 6, LEAST, MOST);
        refused(p, "no WOMEN", bare(fill(0, 7), x -> x.at(0, 0)), x -> x.raise(1, 5, 0), STATE);
        refused(p, "no WOMEN, 0 dykes", bare(fill(0, 7), x -> x.at(0, 0)), x -> x.raise(0, 0, 0), STATE);
        refused(p, "no room for 1", full, x -> x.raise(1, 5, 0), STATE);
        refused(p, "no room for 6, only for 5", by("d9999940w010", fill(0, 7)), x -> x.raise(6, 5, 0), STATE);
        refused(p, "no room for 6, only for 5 at several PLACES", by("d8888890w010", fill(0, 7)),
            x -> x.raise(6, 5, 0), STATE);
        refused(p, "no room any more by a dyke", by("d9999981w010", x -> x.dyke(5)), x -> x.raise(1, 5, 0), STATE);
        refused(p, "no room: the ROW stays missing", full, x -> x.raise(1, 5, 3), STATE);
        refused(p, "BAD of a number is ahead of no WOMEN", bare(), x -> x.raise(7, 0, 0), BAD);
        refused(p, "BAD of a HEIGHT is ahead of no WOMEN", bare(), x -> x.raise(0, 21, 0), BAD);
        refused(p, "BAD of a ROW is ahead of no WOMEN", bare(), x -> x.raise(0, 0, 6), BAD);
        refused(p, "BAD of a number is ahead of no room", full, x -> x.raise(7, 0, 0), BAD);
        refused(p, "BAD of a HEIGHT is ahead of no room", full, x -> x.raise(1, -1, 0), BAD);
        refused(p, "BAD of a ROW is ahead of no room", full, x -> x.raise(1, 0, 6), BAD);
    }

    // ---- dry

    private static void dry() {
        String p = "32 dry";
        answers(p, "0: GROUND 0", by(ONE), x -> x.dry(), 0);
        answers(p, "9: GROUND 9 is the highest", by("d9000000w010"), x -> x.dry(), 9);
        answers(p, "the lowest is the first WOMAN's", by("d3789990w010w110w210"), x -> x.dry(), 3);
        answers(p, "the lowest is the last of six", by("d9999940w010w110w210w310w410w510"), x -> x.dry(), 4);
        answers(p, "GROUND where nobody lives does not matter", by("d0000090w510"), x -> x.dry(), 9);
        answers(p, "as they live now", by("d3700000w010", x -> x.move(0, 1)), x -> x.dry(), 7);
        answers(p, "as the GROUND is now", by("d3700001w010", x -> x.dyke(0)), x -> x.dry(), 4);
        for (int g : new int[] {0, 1, 8, 9}) {
            String signs = "d" + g + "999990w010w110";
            answers(p, "by such a flood nobody is WET: " + g, by(signs), x -> x.flood(x.dry()), 0);
            answers(p, "by a flood 1 higher one is: " + g, by(signs), x -> x.flood(x.dry() + 1) > 0 ? 1 : 0, 1);
        }
        answers(p, "a BRIDE's HEM of 2 does not make her WET", by("d5000000b010"), x -> x.dry(), 5);
        refused(p, "no WOMEN", bare(fill(0, 5), x -> x.at(0, 0)), x -> x.dry(), STATE);
        test(p, "nothing changes", () -> {
            HemLine x = rich().make(), same = rich().make();
            x.dry();
            is("digest()", x.digest(), same.digest());
            is("asked()", x.asked(), 7);
        });
    }

    // ---- least

    private static void leastIs(String boundary, String signs, int f, int v, int dykes) {
        answers("33 least", boundary, by(signs), x -> x.least(0, f, v), dykes);
    }

    private static void least() {
        String p = "33 least";
        leastIs("HEIGHT 0 is the first", ONE, 0, 0, 0);
        leastIs("HEIGHT 20 is the last", ONE, 20, 11, 9);
        leastIs("by more than 0: she is dry already", "d3000000w010", 3, 0, 0);
        leastIs("by more than 0: 1 dyke", "d3000000w010", 4, 0, 1);
        leastIs("by more than 1: none", "d3000000w010", 4, 1, 0);
        leastIs("by more than 1: 1 dyke", "d3000000w010", 5, 1, 1);
        leastIs("by more than 20: none", ONE, 20, 20, 0);
        leastIs("less WET than that: 0, no fewer", ONE, 5, 7, 0);
        leastIs("1 less WET than that: 0, no fewer", ONE, 5, 6, 0);
        leastIs("the GROUND is 1 higher than due: 0, no fewer", "d3000000w010", 2, 0, 0);
        leastIs("the GROUND is much higher than due: 0, no fewer", "d9000000w010", 0, 20, 0);
        leastIs("by more than 19: 1 dyke", ONE, 20, 19, 1);
        leastIs("9 dykes, up to GROUND 9", ONE, 9, 0, 9);
        leastIs("GROUND 9 is just enough", "d9000000w010", 9, 0, 0);
        leastIs("GROUND 9 is just enough by more than 11", "d9000000w010", 20, 11, 0);
        leastIs("6 dykes, up to GROUND 9", "d3000000w010", 10, 1, 6);
        leastIs("EARTH aside", "d0000000w010", 5, 0, 5);
        none(p, "GROUND 9 is not enough: 10 dykes", by(ONE), x -> x.least(0, 10, 0));
        none(p, "GROUND 9 is not enough: from 9 on", by("d9000000w010"), x -> x.least(0, 10, 0));
        none(p, "GROUND 9 is not enough by more than 10", by(ONE), x -> x.least(0, 20, 10));
        none(p, "GROUND 9 is not enough: HEIGHT 20", by("d8000000w010"), x -> x.least(0, 20, 0));
        answers(p, "WOMAN 0 is the first", by(SIX), x -> x.least(0, 7, 0), 7);
        answers(p, "WOMAN 5 of 6 is the last", by(SIX), x -> x.least(5, 7, 0), 2);
        answers(p, "her PLACE as now", by("d0500000w010", x -> x.move(0, 1)), x -> x.least(0, 7, 0), 2);
        answers(p, "the GROUND as now", by("d0000001w010", x -> x.dyke(0)), x -> x.least(0, 7, 0), 6);
        test(p, "nothing changes", () -> {
            HemLine x = rich().make(), same = rich().make();
            x.least(0, 9, 0);
            is("digest()", x.digest(), same.digest());
            is("asked()", x.asked(), 7);
        });
    }

    private static void leastRefused() {
        String p = "33 least";
        bad(p, "of six: WOMAN", rich(), i -> x -> x.least(i, 5, 0), -1, 6, LEAST, MOST);
        bad(p, "of one: WOMAN", by(ONE), i -> x -> x.least(i, 5, 0), -1, 1);
        bad(p, "of none: WOMAN", bare(), i -> x -> x.least(i, 5, 0), 0);
        bad(p, "of one where six were: WOMAN", fewer(), i -> x -> x.least(i, 5, 0), 1, 5);
        bad(p, "HEIGHT", rich(), f -> x -> x.least(0, f, 0), NO_HEIGHTS);
        bad(p, "by how much", rich(), v -> x -> x.least(0, 5, v), NO_HEIGHTS);
        refused(p, "BAD of a HEIGHT is ahead of NONE", by("d9000000w010"), x -> x.least(0, 21, 0), BAD);
        refused(p, "BAD of a WOMAN is ahead of NONE", by("d9000000w010"), x -> x.least(1, 20, 0), BAD);
        refused(p, "BAD of by how much is ahead of NONE", by("d9000000w010"), x -> x.least(0, 20, -1), BAD);
    }

    // ---- duel

    private static void duels(String boundary, String signs, int n, int f, int answer) {
        test("34 duel", boundary, () -> {
            HemLine x = by(signs, fill(1, 4242), y -> y.at(1, 0)).make();
            long digest = x.digest();
            is("answer", x.duel(n, f), answer);
            is("digest()", x.digest(), digest);
            is("asked()", x.asked(), 4242);
            is("once more", x.duel(n, f), answer);
        });
    }

    private static void duelByNone() {
        duels("0 turns, HEIGHT 0", ONE, 0, 0, 100);
        duels("0 turns, HEIGHT 20, the first bank", ONE, 0, 20, 80);
        duels("0 turns, HEIGHT 20, the second bank", "d0000000w510", 0, 20, 120);
        duels("PLACE 2 is the first bank's", "d0000000w210", 0, 5, 95);
        duels("PLACE 3 is the second bank's", "d0000000w310", 0, 5, 105);
        duels("six WOMEN of the first bank", "d0000000w010w010w110w110w210w210", 0, 20, -20);
        duels("six WOMEN of the second bank", "d0000000w310w310w410w410w510w510", 0, 20, 220);
        duels("three of each", "d0000000w010w110w210w310w410w510", 0, 20, 100);
        duels("by GROUND", "d1230450w010w110w210w310w410w510", 0, 20, 100 + 60 - 9 - 54);
        duels("by how WET they are, not by HEMS", "d0000000g010l313", 0, 9, 100);
        duels("all are dry", "d5005000w010w310", 0, 5, 100);
        duels("one is just WET", "d5005000w010w310w410", 0, 1, 101);
    }

    private static void duelOfFirst() {
        for (int place = 0; place < 3; place++) {
            duels("the first turn is the first bank's: PLACE " + place, "d0000000w" + place + "10", 1, 20, 81);
            duels("three of six turns are the first bank's: PLACE " + place, "d0000000w" + place + "10", 6, 20, 83);
        }
        duels("the second turn is none of the first bank's", ONE, 2, 20, 81);
        duels("the third turn is the first bank's", ONE, 3, 20, 82);
        duels("the fifth turn is the first bank's", ONE, 5, 20, 83);
        duels("the first bank can't raise the other's PLACE", "d0000000w310", 1, 20, 120);
        duels("the first bank raises where two live", "d0000000w010w110w110", 1, 20, 42);
        duels("the first bank raises none where each would be the worse", "d0000000w010w110", 1, 5, 90);
        duels("the first bank's turns at several PLACES", "d0000000w010w110w210", 5, 20, 100 - 60 + 3);
    }

    private static void duelOfSecond() {
        for (int place = 3; place < 6; place++) {
            duels("the second turn is the second bank's: PLACE " + place, "d0000000w" + place + "10", 2, 20, 119);
            duels("three of six turns are the second bank's: PLACE " + place, "d0000000w" + place + "10", 6, 20, 117);
        }
        duels("the fourth turn is the second bank's", "d0000000w310", 4, 20, 118);
        duels("the fifth turn is none of the second bank's", "d0000000w310", 5, 20, 118);
        duels("the second bank can't raise the other's PLACE", "d9990000w010", 2, 20, 89);
        duels("the second bank raises none where each would be the worse", "d9990000w310w410", 2, 5, 110);
    }

    private static void duelOfWater() {
        duels("1 more for a dyke that the first bank raises", "d0000000w410", 1, 5, 106);
        duels("1 more for a dyke that the second bank raises", ONE, 2, 5, 94);
        duels("6 dykes, 6 more", "d0000000w010w310", 6, 5, 100);
        duels("20 at most: of 20", "d0000000w310", 1, 20, 120);
        duels("20 at most: of 19", "d0000000w310", 1, 19, 120);
        duels("20 at most: of 19 by three", "d0000000w310w410", 3, 19, 100 + 20 + 19);
        duels("up to 20 of 14 by six", "d0000000w310w310", 6, 14, 100 + 2 * 17);
        duels("the water comes to who was dry", "d9995000w310", 0, 5, 100);
        duels("the water comes to who was dry by a dyke", "d0005000w310", 1, 5, 101);
        duels("a dyke of one's own keeps it off", "d0005000w310", 2, 5, 101);
        duels("1 more for each dyke in all, not only for one's own", "d0000000w010w010", 4, 5, 100 - 10 - 4);
    }

    private static void duelOfGround() {
        duels("GROUND 8 is raised to 9", "d8000000w010", 1, 20, 89);
        duels("GROUND 9 is not raised", "d9000000w010", 1, 20, 89);
        duels("GROUND 8 is raised once", "d8000000w010", 6, 20, 89);
        duels("GROUND 7 is raised twice", "d7000000w010", 6, 20, 89);
        duels("GROUND 6 is raised three times", "d6000000w010", 6, 20, 89);
        duels("GROUND 5 is raised three times", "d5000000w010", 6, 20, 88);
        duels("GROUND 9 of all the first bank: no water from it", "d9990000w410", 1, 5, 105);
        duels("GROUND 8 of PLACE 2: water from it", "d9980000w410", 1, 5, 106);
        duels("GROUND 8 of PLACE 2: water from it once", "d9980000w410", 5, 5, 106);
        duels("GROUND 9 of all the second bank: no water from it", "d0009990w010w110", 2, 5, 90);
        duels("GROUND 8 of PLACE 3: water from it", "d0008990w010w110", 2, 5, 88);
        duels("GROUND 9 of all", "d9999990w010w310w310", 6, 20, 111);
        duels("EARTH aside", "d0000009w010", 1, 20, 81);
        answers("34 duel", "as they live now", by(ONE, x -> x.move(0, 3)), x -> x.duel(0, 5), 105);
        answers("34 duel", "as the GROUND is now", by("d0000001w010", x -> x.dyke(0)), x -> x.duel(0, 5), 96);
    }

    private static void duelRefused() {
        String p = "34 duel";
        bad(p, "a number of turns", rich(), n -> x -> x.duel(n, 5), NO_TURNS);
        bad(p, "HEIGHT", rich(), f -> x -> x.duel(1, f), NO_HEIGHTS);
        refused(p, "no WOMEN", bare(fill(0, 5), x -> x.at(0, 0)), x -> x.duel(0, 0), STATE);
        refused(p, "BAD of turns is ahead of no WOMEN", bare(), x -> x.duel(7, 0), BAD);
        refused(p, "BAD of a HEIGHT is ahead of no WOMEN", bare(), x -> x.duel(0, 21), BAD);
    }
}
