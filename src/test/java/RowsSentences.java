/** The document from "Promise 1" to "Promise 15": a new object, ROWS, TEXTS, DELTAS, WOMEN, HEMS. */
final class RowsSentences extends Sentences {
    private static final String ALL_KINDS = "d2413057 w053 b170 l262 v380 g440 a591";
    private static final int[][] HEMS = {{4, 1, 5}, {2, 2, 5}, {3, 0, 4}, {3, 0, 4}, {5, 4, 5}, {1, 0, 4}};

    static void all() {
        made();
        row();
        lay();
        at();
        tear();
        copy();
        copyRefused();
        mean();
        text();
        put();
        fault();
        delta();
        deltaRefused();
        woman();
        mark();
        markOfGirlAunt();
        hem();
        would();
    }

    private static Made threeYears(Call... steps) {
        return land(ALL_KINDS, floods(6, 3, 9), each(steps));
    }

    // ---- 1

    private static void made() {
        says("HemLine(): No ROWS, TEXTS, WOMEN.");
        for (int k = 0; k <= 10; k++) {
            int what = k;
            onNew("count " + k, x -> x.count(what), 0);
        }
        onNew("digest()", x -> x.digest(), 805854121038134544L);
        after("another object has what it has for itself", () -> {
            HemLine other = rich().make(), x = new HemLine();
            is("its WOMEN", other.count(0), 6);
            is("WOMEN", x.count(0), 0);
            is("ROWS", x.count(8), 0);
            is("TEXTS", x.count(9), 0);
            is("kept DELTAS", x.count(10), 0);
            x.row(0, 1);
            is("ROW 0 of the other one", other.at(0, 2), 1);
        });
        finds("no ROW to tear", bare(), x -> x.tear(5), NOTHING);
        finds("no TEXT to read", bare(), x -> x.delta(3), NOTHING);
        refused("no WOMAN", bare(), x -> x.woman(0, 0), BAD);
    }

    // ---- 2

    private static void row() {
        says("int row(int r, int n): A ROW is there with n ints 0: n.");
        onNew("3", x -> x.row(0, 3), 3);
        onNew("each of 40 is 0, there is no 41st", () -> {
            HemLine x = new HemLine();
            is("row(2, 40)", x.row(2, 40), 40);
            holds(x, 2, new int[40]);
        });
        onNew("none", () -> {
            HemLine x = new HemLine();
            is("row(2, 0)", x.row(2, 0), 0);
            is("count(8)", x.count(8), 1);
            holds(x, 2);
        });
        after("what was laid is 0 anew", () -> holds(bare(fill(0, 7, 8, 9), x -> x.row(0, 3)).make(), 0, 0, 0, 0));
        after("more than ahead", () -> holds(bare(fill(0, 7), x -> x.row(0, 3)).make(), 0, 0, 0, 0));
        after("less than ahead", () -> holds(bare(fill(0, 7, 8, 9), x -> x.row(0, 2)).make(), 0, 0, 0));
        after("torn ahead", () -> holds(bare(fill(0, 7, 8), x -> x.tear(0), x -> x.row(0, 2)).make(), 0, 0, 0));
        after("other ROWS stay", () -> holds(bare(fill(0, 7, 8), x -> x.row(1, 2)).make(), 0, 7, 8));
        after("once more is one ROW", bare(x -> x.row(1, 2), x -> x.row(1, 5)), x -> x.count(8), 1);
        finds("the ROW stays", bare(fill(0, 7, 8)), x -> x.row(0, -1), SIZE);

        says("BAD: also n above 40; SIZE: below 0.");
        onNewRefused("41", x -> x.row(0, 41), BAD);
        onNewFinds("-1", x -> x.row(0, -1), SIZE);
        after("40 is not above 40", bare(x -> x.row(0, 2)), x -> x.row(0, 40), 40);
        after("0 is not below 0", bare(x -> x.row(0, 2)), x -> x.row(0, 0), 0);
        refusedEach("ROW", rich(), r -> x -> x.row(r, 3), -1, 6, LEAST, MOST);
        refusedEach("of too many:", rich(), n -> x -> x.row(3, n), 41, MOST);
        refusedEach("SIZE is behind BAD: ROW", rich(), r -> x -> x.row(r, -1), -1, 6);
        finds("-1 where one is", rich(), x -> x.row(0, -1), SIZE);
        finds("the least", rich(), x -> x.row(3, LEAST), SIZE);
    }

    // ---- 3, 4

    private static void lay() {
        says("int lay(int r, int i, int v): Place i of a ROW is v: what it was, told by asked(): 1.");
        onNew("a ROW just made: 0 is told", () -> {
            HemLine x = new HemLine();
            x.row(5, 2);
            is("lay(5, 1, -7)", x.lay(5, 1, -7), 1);
            is("asked()", x.asked(), 0);
            holds(x, 5, 0, -7);
        });
        afterTells("laid ahead", bare(fill(0, 7, 8, 9)), x -> x.lay(0, 1, 5), 1, 8);
        after("place 1 is v, the others stay", () -> holds(bare(fill(0, 7, 8, 9), x -> x.lay(0, 1, 5)).make(), 0, 7, 5, 9));
        afterTells("laid twice", bare(fill(0, 7, 8, 9), x -> x.lay(0, 1, 5)), x -> x.lay(0, 1, 6), 1, 5);
        afterTells("torn, made anew", bare(fill(0, 7, 8), x -> x.tear(0), x -> x.row(0, 2)), x -> x.lay(0, 1, 6), 1, 0);
        afterTells("copied there", bare(fill(0, 7, 8), fill(1, 3, 4), x -> x.copy(1, 0, 0, 1, 1)), x -> x.lay(0, 1, 6), 1, 3);
        afterTells("a way of raise()", land("d0000000w010", x -> x.raise(4, 0, 3)), x -> x.lay(3, 5, 6), 1, 4);
        afterTells("the greatest int where the least was", bare(fill(0, LEAST)), x -> x.lay(0, 0, MOST), 1, LEAST);
        after("another ROW stays", () -> holds(bare(fill(0, 7, 8), fill(1, 3, 4), x -> x.lay(1, 0, 9)).make(), 0, 7, 8));
        finds("nothing is laid beyond", bare(fill(0, 7, 8)), x -> x.lay(0, 2, 5), BEYOND);

        says("BAD; NOTHING; BEYOND.");
        onNewRefused("ROW 6", x -> x.lay(6, 0, 0), BAD);
        onNewFinds("ROW 0 is missing", x -> x.lay(0, 0, 0), NOTHING);
        after("a ROW of none has no place 0", bare(x -> x.row(0, 0)), x -> x.lay(0, 0, 0), FINDING);
        refusedEach("ROW", rich(), r -> x -> x.lay(r, 0, 1), -1, 6, LEAST, MOST);
        finds("torn", rich(x -> x.tear(0)), x -> x.lay(0, 0, 1), NOTHING);
        finds("missing, and such a place is never", rich(), x -> x.lay(3, -1, 1), NOTHING);
        finds("place -1", rich(), x -> x.lay(0, -1, 1), BEYOND);
        finds("place 3 of three", rich(), x -> x.lay(0, 3, 1), BEYOND);
        finds("place 40 of 40", rich(), x -> x.lay(2, 40, 1), BEYOND);
        finds("the greatest place", rich(), x -> x.lay(2, MOST, 1), BEYOND);
        finds("the least place", rich(), x -> x.lay(2, LEAST, 1), BEYOND);
    }

    private static void at() {
        says("int at(int r, int i): Place i of a ROW, told by asked(): 1.");
        onNew("a ROW just made", x -> x.row(0, 1) + x.at(0, 0) + x.asked(), 2);
        afterTells("laid", bare(fill(0, 7, 8, 9)), x -> x.at(0, 1), 1, 8);
        afterTells("the first", bare(fill(0, 7, 8, 9)), x -> x.at(0, 0), 1, 7);
        afterTells("the last", bare(fill(0, 7, 8, 9)), x -> x.at(0, 2), 1, 9);
        afterTells("it stays when it is looked at", bare(fill(0, 7, 8, 9), x -> x.at(0, 1)), x -> x.at(0, 1), 1, 8);
        afterTells("laid anew", bare(fill(0, 7, 8), x -> x.lay(0, 1, -8)), x -> x.at(0, 1), 1, -8);
        afterTells("torn, made anew", bare(fill(0, 7, 8), x -> x.tear(0), x -> x.row(0, 2)), x -> x.at(0, 1), 1, 0);
        afterTells("copied there", bare(fill(0, 7, 8), x -> x.copy(0, 0, 0, 1, 1)), x -> x.at(0, 1), 1, 7);
        afterTells("a DELTA begun does not change it", land("d0000000w010", fill(0, 7), x -> x.delta(0)),
            x -> x.at(0, 0), 1, 7);
        afterTells("undone, gone on from: it stays", land("d0000000w010", fill(0, 7), x -> x.keep(0), floods(3),
            x -> x.lay(0, 0, 6), x -> x.undo(0), x -> x.on(0)), x -> x.at(0, 0), 1, 6);
        finds("what was told stays", bare(fill(0, 7, 8), x -> x.at(0, 1)), x -> x.at(0, 2), BEYOND);

        says("BAD; NOTHING; BEYOND.");
        onNewRefused("ROW -1", x -> x.at(-1, 0), BAD);
        onNewFinds("ROW 5 is missing", x -> x.at(5, 0), NOTHING);
        after("a ROW of none has no place 0", bare(x -> x.row(0, 0)), x -> x.at(0, 0), FINDING);
        refusedEach("ROW", rich(), r -> x -> x.at(r, 0), -1, 6, LEAST, MOST);
        finds("torn", rich(x -> x.tear(0)), x -> x.at(0, 0), NOTHING);
        finds("missing, and such a place is never", rich(), x -> x.at(3, 40), NOTHING);
        finds("place -1", rich(), x -> x.at(0, -1), BEYOND);
        finds("place 3 of three", rich(), x -> x.at(0, 3), BEYOND);
        finds("place 40 of 40", rich(), x -> x.at(2, 40), BEYOND);
        finds("the greatest place", rich(), x -> x.at(2, MOST), BEYOND);
    }

    // ---- 5

    private static void tear() {
        says("int tear(int r): A ROW is missing: 1.");
        onNew("a ROW just made", x -> x.row(5, 3) + x.tear(5), 4);
        after("laid", bare(fill(0, 7)), x -> x.tear(0), 1);
        after("a ROW of none", bare(x -> x.row(0, 0)), x -> x.tear(0), 1);
        after("it is no more counted", bare(fill(0, 7), fill(1, 8), x -> x.tear(0)), x -> x.count(8), 1);
        after("it is missing then", bare(fill(0, 7), x -> x.tear(0)), x -> x.at(0, 0), FINDING);
        after("another one stays", () -> holds(bare(fill(0, 7), fill(1, 8), x -> x.tear(0)).make(), 1, 8));
        after("torn and made, it can be torn again", bare(fill(0, 7), x -> x.tear(0), x -> x.row(0, 1)), x -> x.tear(0), 1);
        finds("a torn one stays torn", bare(fill(0, 7), x -> x.tear(0)), x -> x.tear(0), NOTHING);

        says("BAD; NOTHING.");
        onNewRefused("ROW 6", x -> x.tear(6), BAD);
        onNewFinds("ROW 0", x -> x.tear(0), NOTHING);
        after("another ROW than the one that is there", bare(x -> x.row(0, 1)), x -> x.tear(1), FINDING);
        refusedEach("ROW", rich(), r -> x -> x.tear(r), -1, 6, LEAST, MOST);
        finds("missing", rich(), x -> x.tear(3), NOTHING);
    }

    // ---- 6

    private static void copies(String what, int[] due, int r, int i, int to, int j, int n) {
        after(what, () -> {
            HemLine x = bare(fill(0, 1, 2, 3, 4), fill(1, 7, 8, 9)).make();
            is("copy()", x.copy(r, i, to, j, n), 1);
            holds(x, to, due);
            is("count(8)", x.count(8), 2);
            if (r != to) {
                holds(x, r, r == 0 ? new int[] {1, 2, 3, 4} : new int[] {7, 8, 9});
            }
        });
    }

    private static void copy() {
        says("int copy(int r, int i, int to, int j, int n): n places of a ROW, from one on, come to those of another one "
            + "(perhaps itself) from one on, as if taken ahead: 1.");
        onNew("ROWS just made", x -> x.row(0, 2) + x.row(1, 2) + x.copy(0, 0, 1, 0, 2), 5);
        copies("two of the middle", new int[] {7, 2, 3}, 0, 1, 1, 1, 2);
        copies("the last one to the first", new int[] {4, 8, 9}, 0, 3, 1, 0, 1);
        copies("all of the lesser one", new int[] {1, 7, 8, 9}, 1, 0, 0, 1, 3);
        copies("none", new int[] {7, 8, 9}, 0, 2, 1, 1, 0);
        copies("none, from behind the last to behind the last", new int[] {7, 8, 9}, 0, 4, 1, 3, 0);
        copies("to itself, on to the right", new int[] {1, 1, 2, 3}, 0, 0, 0, 1, 3);
        copies("to itself, on to the left", new int[] {2, 3, 4, 4}, 0, 1, 0, 0, 3);
        copies("to itself, where it is", new int[] {1, 2, 3, 4}, 0, 0, 0, 0, 4);
        after("as it is laid then", () -> holds(bare(fill(0, 1, 2), fill(1, 7, 8), x -> x.copy(0, 0, 1, 0, 2),
            x -> x.lay(0, 0, 9)).make(), 1, 1, 2));
        after("torn and made anew", () -> holds(bare(fill(0, 1, 2), fill(1, 7, 8), x -> x.tear(0), x -> x.row(0, 2),
            x -> x.copy(0, 0, 1, 0, 1)).make(), 1, 0, 8));
        finds("no place is copied if one is not there", bare(fill(0, 1, 2), fill(1, 7, 8)), x -> x.copy(0, 0, 1, 1, 2),
            BEYOND);
    }

    private static void copyRefused() {
        says("BAD; SIZE: n below 0; NOTHING: either; BEYOND: not so many there (also with n 0, if i, j is below 0, or above "
            + "its size).");
        onNewRefused("from ROW 6", x -> x.copy(6, 0, 0, 0, 0), BAD);
        onNewRefused("to ROW -1", x -> x.copy(0, 0, -1, 0, 0), BAD);
        onNewFinds("both are missing", x -> x.copy(0, 0, 1, 0, 0), NOTHING);
        Made two = bare(fill(0, 1, 2, 3, 4), fill(1, 7, 8, 9));
        after("0 is not below 0", two, x -> x.copy(0, 0, 1, 0, 0), 1);
        refusedEach("from ROW", two, r -> x -> x.copy(r, 0, 0, 0, 1), -1, 6, LEAST, MOST);
        refusedEach("to ROW", two, r -> x -> x.copy(0, 0, r, 0, 1), -1, 6, LEAST, MOST);
        finds("-1 places", two, x -> x.copy(0, 0, 1, 0, -1), SIZE);
        finds("the least many", two, x -> x.copy(0, 0, 1, 0, LEAST), SIZE);
        finds("from a missing one", two, x -> x.copy(2, 0, 1, 0, 1), NOTHING);
        finds("to a missing one", two, x -> x.copy(0, 0, 2, 0, 1), NOTHING);
        finds("to a torn one", bare(fill(0, 1), fill(1, 7), x -> x.tear(1)), x -> x.copy(0, 0, 1, 0, 1), NOTHING);
        finds("4 places from 1 on of four", two, x -> x.copy(0, 1, 0, 0, 4), BEYOND);
        finds("3 places from 1 on of three", two, x -> x.copy(0, 0, 1, 1, 3), BEYOND);
        finds("0 places from -1 on", two, x -> x.copy(0, -1, 1, 0, 0), BEYOND);
        finds("0 places to -1 on", two, x -> x.copy(0, 0, 1, -1, 0), BEYOND);
        finds("0 places from 5 on of four", two, x -> x.copy(0, 5, 1, 0, 0), BEYOND);
        finds("0 places to 4 on of three", two, x -> x.copy(0, 0, 1, 4, 0), BEYOND);
        finds("the greatest many", two, x -> x.copy(0, 1, 1, 1, MOST), BEYOND);
        finds("the greatest place", two, x -> x.copy(0, MOST, 1, 0, MOST), BEYOND);

        says("(In this order.)");
        onNewRefused("BAD is ahead of SIZE", x -> x.copy(6, 0, 0, 0, -1), BAD);
        onNewFinds("SIZE is ahead of NOTHING", x -> x.copy(0, 0, 1, 0, -1), SIZE);
        onNewFinds("NOTHING is ahead of BEYOND", x -> x.copy(0, -1, 1, -1, 5), NOTHING);
        after("BAD is ahead of NOTHING", two, x -> x.copy(2, 0, 6, 0, 1), BAD);
        after("BAD is ahead of BEYOND", two, x -> x.copy(0, 9, 6, 0, 1), BAD);
        finds("SIZE is ahead of BEYOND", two, x -> x.copy(0, 9, 1, 0, -1), SIZE);
        finds("NOTHING of the second is ahead of BEYOND of the first", two, x -> x.copy(0, 9, 2, 0, 1), NOTHING);
    }

    // ---- 7

    private static void mean() {
        says("int mean(int r): The mean of a ROW's ints, cut, told by asked(): 1.");
        onNew("a ROW just made", x -> x.row(0, 3) + x.mean(0) + x.asked(), 4);
        afterTells("6 by 3", bare(fill(0, 1, 2, 3)), x -> x.mean(0), 1, 2);
        afterTells("8 by 3, cut", bare(fill(0, 1, 2, 5)), x -> x.mean(0), 1, 2);
        afterTells("-8 by 3, cut", bare(fill(0, -1, -2, -5)), x -> x.mean(0), 1, -2);
        afterTells("-1 by 2, cut", bare(fill(0, 0, -1)), x -> x.mean(0), 1, 0);
        afterTells("one", bare(fill(0, -9)), x -> x.mean(0), 1, -9);
        afterTells("the greatest ints", bare(fill(0, MOST, MOST, MOST)), x -> x.mean(0), 1, MOST);
        afterTells("the least ints", bare(fill(0, LEAST, LEAST, LEAST)), x -> x.mean(0), 1, LEAST);
        afterTells("laid anew", bare(fill(0, 1, 2, 3), x -> x.lay(0, 0, 10)), x -> x.mean(0), 1, 5);
        afterTells("made anew", bare(fill(0, 1, 2, 3), fill(0, 8)), x -> x.mean(0), 1, 8);
        afterTells("copied", bare(fill(0, 1, 2, 6), x -> x.copy(0, 2, 0, 0, 1)), x -> x.mean(0), 1, 4);
        finds("what was told stays", bare(fill(0, 5), x -> x.mean(0)), x -> x.mean(1), NOTHING);

        says("BAD; NOTHING; NOUGHT.");
        onNewRefused("ROW 6", x -> x.mean(6), BAD);
        onNewFinds("ROW 0", x -> x.mean(0), NOTHING);
        after("a ROW of none", bare(x -> x.row(0, 0)), x -> x.mean(0), FINDING);
        refusedEach("ROW", rich(), r -> x -> x.mean(r), -1, 6, LEAST, MOST);
        finds("torn", rich(x -> x.tear(0)), x -> x.mean(0), NOTHING);
        finds("shared among none", rich(), x -> x.mean(1), NOUGHT);
    }

    // ---- 8, 9

    private static void text() {
        says("int text(int t, int n): A TEXT is there with n blanks: n.");
        onNew("3", x -> x.text(0, 3), 3);
        onNew("each of 60 is a blank, there is no 61st", () -> {
            HemLine x = new HemLine();
            is("text(3, 60)", x.text(3, 60), 60);
            for (int i = 0; i < 60; i++) {
                is("put " + i, x.put(3, i, 0), 1032);
            }
            is("put 60", x.put(3, 60, 0), FINDING);
        });
        onNew("none is a TEXT, too", x -> x.text(3, 0) + x.count(9), 1);
        after("what was put is a blank anew", bare(x -> write(x, 0, "abc"), x -> x.text(0, 3)), x -> x.put(0, 1, 0), 1032);
        after("longer than ahead", bare(x -> write(x, 0, "abc"), x -> x.text(0, 5)), x -> x.put(0, 4, 0), 1032);
        after("shorter than ahead", bare(x -> write(x, 0, "abc"), x -> x.text(0, 1)), x -> x.put(0, 1, 0), FINDING);
        after("other TEXTS stay", bare(x -> write(x, 0, "abc"), x -> x.text(1, 3)), x -> x.put(0, 1, 0), 1098);
        after("once more is one TEXT", bare(x -> x.text(0, 3), x -> x.text(0, 4)), x -> x.count(9), 1);
        after("the DELTA that was begun by it stays", land(ALL_KINDS, x -> x.text(0, 0)), x -> x.count(0), 6);
        finds("the TEXT stays", land(ALL_KINDS), x -> x.text(0, -1), SIZE);

        says("BAD: also n above 60; SIZE: below 0.");
        onNewRefused("61", x -> x.text(0, 61), BAD);
        onNewFinds("-1", x -> x.text(0, -1), SIZE);
        after("60 is not above 60", bare(x -> x.text(0, 2)), x -> x.text(0, 60), 60);
        after("0 is not below 0", bare(x -> x.text(0, 2)), x -> x.text(0, 0), 0);
        refusedEach("TEXT", rich(), t -> x -> x.text(t, 3), -1, 4, LEAST, MOST);
        refusedEach("of too many:", rich(), n -> x -> x.text(3, n), 61, MOST);
        refusedEach("SIZE is behind BAD: TEXT", rich(), t -> x -> x.text(t, -1), -1, 4);
        finds("the least", rich(), x -> x.text(3, LEAST), SIZE);
    }

    private static void put() {
        says("int put(int t, int i, int v): Byte i of a TEXT is v, cut to a byte (-128 .. 127): what it was, and 1000 more.");
        onNew("a TEXT just made", x -> x.text(3, 2) * 0 + x.put(3, 1, 65), 1032);
        int[][] cut = {{65, 65}, {0, 0}, {127, 127}, {128, -128}, {255, -1}, {256, 0}, {-1, -1}, {-128, -128}, {-129, 127},
            {MOST, -1}, {LEAST, 0}, {1000, -24}};
        for (int[] c : cut) {
            after(c[0] + " is cut to " + c[1], bare(x -> x.text(0, 2), x -> x.put(0, 1, c[0])), x -> x.put(0, 1, 9),
                1000 + c[1]);
        }
        after("the others stay", bare(x -> write(x, 0, "abc"), x -> x.put(0, 1, 0)), x -> x.put(0, 2, 0), 1099);
        after("put twice", bare(x -> write(x, 0, "abc"), x -> x.put(0, 1, 7)), x -> x.put(0, 1, 0), 1007);
        after("another TEXT stays", bare(x -> write(x, 0, "abc"), x -> write(x, 1, "xyz"), x -> x.put(1, 1, 7)),
            x -> x.put(0, 1, 0), 1098);
        after("asked() tells nothing of it", bare(x -> write(x, 0, "abc")), x -> x.put(0, 1, 7) * 0 + x.asked(), 0);
        finds("nothing is put beyond", bare(x -> write(x, 0, "abc")), x -> x.put(0, 3, 7), BEYOND);

        says("BAD; NOTHING; BEYOND.");
        onNewRefused("TEXT 4", x -> x.put(4, 0, 0), BAD);
        onNewFinds("TEXT 0 is missing", x -> x.put(0, 0, 0), NOTHING);
        after("a TEXT of none has no byte 0", bare(x -> x.text(0, 0)), x -> x.put(0, 0, 0), FINDING);
        refusedEach("TEXT", rich(), t -> x -> x.put(t, 0, 1), -1, 4, LEAST, MOST);
        finds("missing, and such a byte is never", rich(), x -> x.put(3, 60, 1), NOTHING);
        finds("byte -1", rich(), x -> x.put(0, -1, 1), BEYOND);
        finds("byte 5 of five", rich(), x -> x.put(1, 5, 1), BEYOND);
        finds("the greatest byte", rich(), x -> x.put(1, MOST, 1), BEYOND);
        finds("the least byte", rich(), x -> x.put(1, LEAST, 1), BEYOND);
    }

    // ---- 10, 11

    private static void fault() {
        says("int fault(int t): A FAULT of a TEXT; NONE: there is none.");
        onNew("of a TEXT just made", x -> x.text(3, 7) * 0 + x.fault(3), 7);
        after("none", land(ALL_KINDS), x -> x.fault(0), NONE);
        after("put there", land(ALL_KINDS, x -> x.put(0, 10, 'x')), x -> x.fault(0), 10);
        after("put there and mended", land(ALL_KINDS, x -> x.put(0, 10, 'x'), x -> x.put(0, 10, '5')), x -> x.fault(0),
            NONE);
        after("of another TEXT", land(ALL_KINDS, x -> write(x, 1, "d00000000")), x -> x.fault(1), 8);
        after("the DELTA stays", land(ALL_KINDS, x -> write(x, 1, "d0000000w010"), x -> x.fault(1)), x -> x.count(0), 6);
        after("asked() stays", land(ALL_KINDS, x -> x.woman(0, 2), x -> x.fault(0)), x -> x.asked(), 5);
        finds("missing", land(ALL_KINDS), x -> x.fault(1), NOTHING);

        says("BAD; NOTHING.");
        onNewRefused("TEXT 4", x -> x.fault(4), BAD);
        onNewFinds("TEXT 0", x -> x.fault(0), NOTHING);
        after("a TEXT of none is there", bare(x -> x.text(0, 0)), x -> x.fault(0), 0);
        refusedEach("TEXT", rich(), t -> x -> x.fault(t), -1, 4, LEAST, MOST);
        finds("TEXT 3 is missing", rich(), x -> x.fault(3), NOTHING);
    }

    private static void delta() {
        says("int delta(int t): A DELTA by a TEXT (anew: YEAR 0, no floods, DEEDS; kept DELTAS go): how many WOMEN.");
        onNew("of two", x -> write(x, 3, "d0000000w010b010") + x.delta(3), 2);
        onNew("of six", x -> write(x, 0, ALL_KINDS) + x.delta(0), 6);
        Made ahead = land("d9999990g593", floods(3, 4), moves(3), x -> x.tuck(0) + x.keep(0) + x.keep(2));
        Made begun = () -> {
            HemLine x = ahead.make();
            begun("d1234569w010a061").on(x);
            return x;
        };
        after("another one", ahead, x -> write(x, 1, ALL_KINDS) + x.delta(1), 6);
        int[] counts = {2, 0, 0, 9, 21, 1, 0, 0, 0, 2, 0};
        for (int k = 0; k <= 10; k++) {
            int what = k;
            after("count " + k + " of another one", begun, x -> x.count(what), counts[k]);
        }
        after("YEAR 0 is due", begun, x -> x.would(1, 9), 6);
        after("no floods", begun, x -> x.mid(), STATE);
        after("no HEMS", begun, x -> x.hem(0, 0), BAD);
        after("no DEEDS", begun, x -> x.undo(0), 0);
        for (int k = 0; k < 3; k++) {
            int place = k;
            after("none is kept at " + k, begun, x -> x.on(place), FINDING);
        }
        after("anew by the same TEXT", land("d0000002w010", floods(3), x -> x.dyke(0), x -> x.delta(0)), x -> x.count(3), 2);
        after("TEXTS and ROWS stay", () -> {
            HemLine x = rich(y -> y.delta(0)).make();
            holds(x, 0, 7, -8, 9);
            is("count(8)", x.count(8), 4);
            is("fault(0)", x.fault(0), NONE);
            is("count(9)", x.count(9), 3);
        });
        refused("nothing is begun by a FAULT", rich(), x -> x.delta(1), STATE);
    }

    private static void deltaRefused() {
        says("BAD; NOTHING; STATE: a FAULT.");
        onNewRefused("TEXT 4", x -> x.delta(4), BAD);
        onNewFinds("TEXT 0", x -> x.delta(0), NOTHING);
        onNew("a FAULT", x -> x.text(0, 9) * 0 + x.delta(0), STATE);
        after("no FAULT any more", bare(x -> write(x, 0, "d0000000w0x0"), x -> x.delta(0), x -> x.put(0, 10, '5')),
            x -> x.delta(0), 1);
        refusedEach("TEXT", rich(), t -> x -> x.delta(t), -1, 4, LEAST, MOST);
        finds("TEXT 3 is missing", rich(), x -> x.delta(3), NOTHING);
        refused("a FAULT: the end too early", rich(), x -> x.delta(1), STATE);
        refused("a FAULT: a TEXT of none", rich(), x -> x.delta(2), STATE);
        refused("a FAULT put where there was none", rich(x -> x.put(0, 0, 'x')), x -> x.delta(0), STATE);

        says("(STATE behind NOTHING.)");
        onNewFinds("a missing TEXT is no FAULT", x -> x.delta(3), NOTHING);
        after("but a TEXT of none is one", bare(x -> x.text(3, 0)), x -> x.delta(3), STATE);
        finds("a missing TEXT where WOMEN are", rich(), x -> x.delta(3), NOTHING);
    }

    // ---- 12

    private static void woman() {
        says("int woman(int i, int what): Of a WOMAN: 0 the KIND, 1 the PLACE, 2 how TALL, 3 the TUCK, 4 how many HEMS "
            + "(YEARS), 5 the greatest of them (0: none), all told by asked(): 1.");
        onNew("nobody", x -> x.woman(0, 0), BAD);
        int[][] facts = {{0, 0, 5, 3, 3, 5}, {1, 1, 7, 0, 3, 5}, {2, 2, 6, 2, 3, 4}, {3, 3, 8, 0, 3, 4}, {4, 4, 4, 0, 3, 5},
            {5, 5, 9, 1, 3, 4}};
        for (int i = 0; i < 6; i++) {
            for (int what = 0; what < 6; what++) {
                int woman = i, fact = what;
                afterTells("WOMAN " + i + ", " + what, threeYears(), x -> x.woman(woman, fact), 1, facts[i][what]);
            }
        }
        afterTells("moved", threeYears(x -> x.move(2, 5)), x -> x.woman(2, 1), 1, 5);
        afterTells("a TUCK more", threeYears(x -> x.tuck(2)), x -> x.woman(2, 3), 1, 3);
        afterTells("undone", threeYears(x -> x.tuck(2), x -> x.move(2, 5), x -> x.undo(3)), x -> x.woman(2, 3), 1, 2);
        afterTells("gone on from", threeYears(x -> x.move(2, 5), x -> x.keep(0), x -> x.move(2, 0), x -> x.on(0)),
            x -> x.woman(2, 1), 1, 5);
        afterTells("HEMS, one flood more", threeYears(floods(0)), x -> x.woman(2, 4), 1, 4);
        afterTells("HEMS, two undone", threeYears(x -> x.undo(1)), x -> x.woman(2, 4), 1, 1);
        afterTells("the greatest, two undone", threeYears(x -> x.undo(1)), x -> x.woman(2, 5), 1, 3);
        afterTells("the greatest of none", land(ALL_KINDS), x -> x.woman(1, 5), 1, 0);
        afterTells("the greatest is the first one", land("d0000000g090", floods(9, 4)), x -> x.woman(0, 5), 1, 10);
        afterTells("the greatest is the second one", land("d0000000w090", floods(1, 9, 2)), x -> x.woman(0, 5), 1, 9);
        afterTells("another DELTA's", threeYears(begun("d0000000b593")), x -> x.woman(0, 2), 1, 9);
        refused("what was told stays", threeYears(x -> x.woman(5, 2)), x -> x.woman(6, 2), BAD);

        says("BAD.");
        onNewRefused("WOMAN 0", x -> x.woman(0, 2), BAD);
        after("WOMAN 0 of one", land("d0000000w010"), x -> x.woman(0, 5), 1);
        refusedEach("WOMAN", threeYears(), i -> x -> x.woman(i, 0), -1, 6, LEAST, MOST);
        refusedEach("what", threeYears(), what -> x -> x.woman(0, what), -1, 6, LEAST, MOST);
        refused("one of another DELTA", threeYears(begun("d0000000b593")), x -> x.woman(1, 0), BAD);
    }

    // ---- 13

    private static void mark() {
        says("int mark(int i, int kind): What a WOMAN that IS of a KIND tells: a BRIDE (GIRL, too) how many of her HEMS were "
            + "more than a WOMAN's would have been by 2 or more, a LIAR (AUNT, too) how much all her HEMS are together less "
            + "than a WOMAN's, a WIDOW how many of her HEMS are less than a WOMAN's,");
        onNew("nobody", x -> x.mark(0, 1), BAD);
        after("a BRIDE of HEMS 2, 2, 5 for 2, 0, 5", threeYears(), x -> x.mark(1, 1), 1);
        after("a BRIDE of HEM 2 for 1", land("d0000000b090", floods(1, 2)), x -> x.mark(0, 1), 0);
        after("a BRIDE of no YEARS", land("d0000000b090"), x -> x.mark(0, 1), 0);
        after("a BRIDE of eight", land("d9000000b090", floods(new int[8])), x -> x.mark(0, 1), 8);
        after("a GIRL as a BRIDE of HEMS 3, 3, 3 for 0, 1, 2", land("d5000000g090", floods(5, 6, 7)), x -> x.mark(0, 1), 2);
        after("a BRIDE's, one YEAR more", threeYears(floods(1)), x -> x.mark(1, 1), 2);
        after("a BRIDE's, two undone", threeYears(x -> x.undo(1)), x -> x.mark(1, 1), 0);
        after("a BRIDE's who moved then", threeYears(x -> x.move(1, 4)), x -> x.mark(1, 1), 1);
        after("a BRIDE's by a dyke since", land("d1000001b090", floods(3), x -> x.dyke(0), floods(1)), x -> x.mark(0, 1), 1);
        after("a LIAR of HEMS 3, 0, 4 for 5, 2, 6", threeYears(), x -> x.mark(2, 2), 6);
        after("a LIAR of HEM 0 for 1", land("d0000000l093", floods(1)), x -> x.mark(0, 2), 1);
        after("a LIAR by a TUCK since", land("d0000000l090", floods(5), x -> x.tuck(0), floods(5)), x -> x.mark(0, 2), 1);
        after("an AUNT as a LIAR, of odd YEARS alone", land("d0000000a093", floods(9, 9, 9, 9)), x -> x.mark(0, 2), 6);
        after("a LIAR's, all undone", threeYears(x -> x.undo(0)), x -> x.mark(2, 2), 0);
        after("a LIAR's gone on from", threeYears(x -> x.keep(0), x -> x.undo(0), x -> x.on(0)), x -> x.mark(2, 2), 6);
        after("a WIDOW of HEMS 3, 0, 4 for 3, 0, 6", threeYears(), x -> x.mark(3, 3), 1);
        after("a WIDOW of HEM 4 for 4", land("d0000000v080", floods(4)), x -> x.mark(0, 3), 0);
        after("a WIDOW of HEMS 0 for 1", land("d0000000v010", floods(1, 0, 1, 20)), x -> x.mark(0, 3), 3);
        refused("nothing is told of KIND 0", threeYears(), x -> x.mark(0, 0), BAD);
        finds("a WOMAN that is no BRIDE", threeYears(), x -> x.mark(0, 1), UNLIKE);
    }

    private static void markOfGirlAunt() {
        says("a GIRL how much all her HEMS are together more than a WOMAN's, an AUNT whether the YEAR that is due is of an odd "
            + "number (1, 0).");
        onNew("nobody", x -> x.mark(0, 4), BAD);
        after("a GIRL of HEMS 5, 4, 5 for 4, 3, 4", threeYears(), x -> x.mark(4, 4), 3);
        after("a GIRL of HEMS 3, 3, 3 for 0, 1, 2", land("d5000000g090", floods(5, 6, 7)), x -> x.mark(0, 4), 6);
        after("a GIRL of TALL 1 of HEM 3 for 1", land("d0000000g010", floods(9)), x -> x.mark(0, 4), 2);
        after("a GIRL of no YEARS", land("d0000000g010"), x -> x.mark(0, 4), 0);
        for (int y = 0; y <= 8; y++) {
            after("an AUNT, due is YEAR " + y, land("d0000000a010", floods(new int[y])), x -> x.mark(0, 5), y % 2);
        }
        after("an AUNT, a flood is undone", threeYears(x -> x.undo(2)), x -> x.mark(5, 5), 0);
        after("an AUNT, other DEEDS are no YEARS", threeYears(x -> x.tuck(5)), x -> x.mark(5, 5), 1);
        finds("a BRIDE is no GIRL", threeYears(), x -> x.mark(1, 4), UNLIKE);
        finds("a LIAR is no AUNT", threeYears(), x -> x.mark(2, 5), UNLIKE);

        says("BAD: also KIND 0; UNLIKE.");
        onNewRefused("WOMAN 0", x -> x.mark(0, 3), BAD);
        after("KIND 5 is one", threeYears(), x -> x.mark(5, 5), 1);
        refusedEach("KIND", threeYears(), kind -> x -> x.mark(5, kind), -1, 0, 6, LEAST, MOST);
        refusedEach("WOMAN", threeYears(), i -> x -> x.mark(i, 1), -1, 6, LEAST, MOST);
        refused("BAD is ahead of UNLIKE", threeYears(), x -> x.mark(6, 4), BAD);
        finds("a WIDOW is no AUNT", threeYears(), x -> x.mark(3, 5), UNLIKE);
        finds("she is another one in another DELTA", threeYears(begun("d0000000w010w010")), x -> x.mark(1, 1), UNLIKE);
    }

    // ---- 14, 15

    private static void hem() {
        says("int hem(int i, int y): The HEM of a WOMAN of YEAR y.");
        onNew("nobody", x -> x.hem(0, 0), BAD);
        for (int i = 0; i < 6; i++) {
            for (int y = 0; y < 3; y++) {
                int woman = i, year = y;
                after("WOMAN " + i + " of YEAR " + y, threeYears(), x -> x.hem(woman, year), HEMS[i][y]);
            }
        }
        after("it stays when she moves, there are dykes, TUCKS, floods", threeYears(x -> x.move(2, 5), x -> x.dyke(2),
            x -> x.tuck(2), floods(20)), x -> x.hem(2, 0), 3);
        after("another flood where one is undone", threeYears(x -> x.undo(2), floods(5)), x -> x.hem(0, 2), 3);
        after("gone on from", threeYears(x -> x.keep(1), x -> x.undo(0), floods(20), x -> x.on(1)), x -> x.hem(0, 0), 4);
        after("of another DELTA", threeYears(begun("d0000000b593"), floods(1)), x -> x.hem(0, 0), 2);
        after("WOMAN 5 of YEAR 7", land("d0000030w090w090w090w090w090w590", floods(9, 9, 9, 9, 9, 9, 9, 8)),
            x -> x.hem(5, 7), 5);
        after("WOMAN 5 of YEAR 7, by her TUCK then", land("d0000000w090w090w090w090w090l593", floods(9, 9, 9, 9, 9, 9, 9, 8)),
            x -> x.hem(5, 7), 5);
        after("asked() stays", threeYears(x -> x.woman(5, 2), x -> x.hem(0, 0)), x -> x.asked(), 9);
        refused("of YEAR 3, that is due", threeYears(), x -> x.hem(0, 3), BAD);

        says("BAD: also a YEAR that is not past.");
        onNewRefused("YEAR 0", x -> x.hem(0, 0), BAD);
        after("YEAR 2 is past", threeYears(), x -> x.hem(5, 2), 4);
        refusedEach("YEAR", threeYears(), y -> x -> x.hem(0, y), -1, 3, 8, LEAST, MOST);
        refusedEach("WOMAN", threeYears(), i -> x -> x.hem(i, 0), -1, 6, LEAST, MOST);
        refused("a YEAR that is undone", threeYears(x -> x.undo(2)), x -> x.hem(0, 2), BAD);
        refused("a YEAR of another DELTA", threeYears(begun("d0000000b593")), x -> x.hem(0, 0), BAD);
    }

    private static void would() {
        says("int would(int i, int f): The HEM that a flood of HEIGHT f (0 .. 20) would make in the YEAR that is due.");
        onNew("nobody", x -> x.would(0, 0), BAD);
        int[][] would = {{0, 4, 5}, {2, 2, 7}, {0, 3, 4}, {0, 3, 4}, {3, 5, 5}, {0, 1, 9}};
        for (int i = 0; i < 6; i++) {
            for (int k = 0; k < 3; k++) {
                int woman = i, f = new int[] {0, 6, 20}[k];
                after("WOMAN " + i + " by " + f, land(ALL_KINDS), x -> x.would(woman, f), would[i][k]);
            }
        }
        after("a YEAR of an odd number is due", threeYears(), x -> x.would(5, 20), 8);
        after("moved", land(ALL_KINDS, x -> x.move(0, 4)), x -> x.would(0, 3), 3);
        after("a dyke", land(ALL_KINDS, x -> x.dyke(0)), x -> x.would(0, 6), 3);
        after("a TUCK", land(ALL_KINDS, x -> x.tuck(2)), x -> x.would(2, 6), 2);
        after("undone", land(ALL_KINDS, x -> x.dyke(0), x -> x.undo(0)), x -> x.would(0, 6), 4);
        after("gone on from", land(ALL_KINDS, x -> x.dyke(0), x -> x.keep(2), x -> x.undo(0), x -> x.on(2)),
            x -> x.would(0, 6), 3);
        after("of another DELTA", threeYears(begun("d0000000a093")), x -> x.would(0, 9), 9);
        after("no flood is done", land(ALL_KINDS, x -> x.would(0, 9)), x -> x.count(2), 0);
        refused("HEIGHT 21", land(ALL_KINDS), x -> x.would(0, 21), BAD);

        says("BAD.");
        onNewRefused("WOMAN 0", x -> x.would(0, 5), BAD);
        after("HEIGHT 20 is one", land(ALL_KINDS), x -> x.would(5, 20), 9);
        refusedEach("HEIGHT", threeYears(), f -> x -> x.would(0, f), -1, 21, LEAST, MOST);
        refusedEach("WOMAN", threeYears(), i -> x -> x.would(i, 0), -1, 6, LEAST, MOST);
    }
}
