/** Boundaries of promises 1 to 7: a new object, row, lay, at, tear, copy, mean. */
public final class RowsBoundsTest extends Bounds {
    private static final int[] NO_ROWS = {-1, 6, LEAST, MOST};

    public static void main(String[] args) {
        newObject();
        row();
        rowRefused();
        lay();
        at();
        placesRefused("3 lay", i -> x -> x.lay(0, i, 1), r -> x -> x.lay(r, 0, 1), r -> x -> x.lay(r, -1, 1));
        placesRefused("4 at", i -> x -> x.at(0, i), r -> x -> x.at(r, 0), r -> x -> x.at(r, -1));
        tear();
        copy();
        copyRefused();
        copyInOrder();
        mean();
        end();
    }

    private static void newObject() {
        String p = "1 HemLine";
        for (int k = 0; k < 6; k++) {
            int r = k;
            finds(p, "ROW " + r + " is missing", bare(), x -> x.at(r, 0), NOTHING);
        }
        for (int k = 0; k < 4; k++) {
            int t = k;
            finds(p, "TEXT " + t + " is missing", bare(), x -> x.fault(t), NOTHING);
        }
        for (int k = 0; k < 3; k++) {
            int place = k;
            finds(p, "kept DELTA " + place + " is missing", bare(), x -> x.on(place), NOTHING);
        }
        for (int k = 0; k <= 10; k++) {
            int what = k;
            answers(p, "count " + what + " is 0", bare(), x -> x.count(what), 0);
        }
        refused(p, "no WOMAN 0", bare(), x -> x.woman(0, 0), BAD);
        refused(p, "no YEAR 0 is past", bare(), x -> x.know(0, 0), BAD);
        test(p, "two objects share nothing", () -> {
            HemLine one = rich().make();
            HemLine other = new HemLine();
            is("digest() of the other one", other.digest(), bare().make().digest());
            other.row(0, 3);
            holds(one, 0, 7, -8, 9);
        });
    }

    private static void row() {
        String p = "2 row";
        answers(p, "ROW 0 is the first", bare(), x -> x.row(0, 3), 3);
        answers(p, "ROW 5 is the last", bare(), x -> x.row(5, 3), 3);
        answers(p, "0 ints are the fewest", bare(), x -> x.row(2, 0), 0);
        answers(p, "1 int", bare(), x -> x.row(2, 1), 1);
        answers(p, "39 ints", bare(), x -> x.row(2, 39), 39);
        answers(p, "40 ints are the most", bare(), x -> x.row(2, 40), 40);
        answers(p, "a ROW of 0 ints is there", bare(x -> x.row(2, 0)), x -> x.count(8), 1);
        for (int n : new int[] {1, 40}) {
            test(p, n + " ints are 0", () -> holds(bare(x -> x.row(5, n)).make(), 5, new int[n]));
        }
        test(p, "0 ints: not even place 0", () -> holds(bare(x -> x.row(5, 0)).make(), 5));
        test(p, "anew its ints are 0 again", () -> {
            HemLine x = bare(fill(1, new int[] {5, -6, 7, 8}), y -> y.row(1, 4)).make();
            holds(x, 1, 0, 0, 0, 0);
        });
        test(p, "shorter and longer again its ints are 0", () -> {
            HemLine x = bare(fill(1, new int[] {5, -6, 7, 8}), y -> y.row(1, 1), y -> y.row(1, 4)).make();
            holds(x, 1, 0, 0, 0, 0);
        });
        test(p, "torn and made again its ints are 0", () -> {
            HemLine x = bare(fill(1, new int[] {5, -6}), y -> y.tear(1), y -> y.row(1, 2)).make();
            holds(x, 1, 0, 0);
        });
        test(p, "the other ROWS stay", () -> {
            HemLine x = bare(fill(1, 4, 5), fill(3, 6), y -> y.row(2, 40)).make();
            holds(x, 1, 4, 5);
            holds(x, 3, 6);
            is("count(8)", x.count(8), 3);
        });
        test(p, "asked() stays", () -> {
            HemLine x = rich(y -> y.row(5, 40)).make();
            is("asked()", x.asked(), 7);
        });
    }

    private static void rowRefused() {
        String p = "2 row";
        bad(p, "ROW", rich(), r -> x -> x.row(r, 3), NO_ROWS);
        bad(p, "a number of ints", rich(), n -> x -> x.row(0, n), 41, 42, MOST);
        finds(p, "-1 ints are fewer than none", rich(), x -> x.row(0, -1), SIZE);
        finds(p, "LEAST ints are fewer than none", rich(), x -> x.row(0, LEAST), SIZE);
        finds(p, "-1 ints of a ROW that is missing", rich(), x -> x.row(5, -1), SIZE);
        refused(p, "BAD of a ROW (6) is ahead of SIZE", rich(), x -> x.row(6, -1), BAD);
        refused(p, "BAD of a ROW (-1) is ahead of SIZE", rich(), x -> x.row(-1, -1), BAD);
        refused(p, "BAD of both", rich(), x -> x.row(6, 41), BAD);
    }

    private static void lay() {
        String p = "3 lay";
        tells(p, "ROW 0 is the first", bare(fill(0, 4)), x -> x.lay(0, 0, 9), 1, 4);
        tells(p, "ROW 5 is the last", bare(fill(5, 4)), x -> x.lay(5, 0, 9), 1, 4);
        tells(p, "place 0 is the first", bare(fill(1, 4, 5, 6)), x -> x.lay(1, 0, 9), 1, 4);
        tells(p, "the last place", bare(fill(1, 4, 5, 6)), x -> x.lay(1, 2, 9), 1, 6);
        tells(p, "place 39 of 40", bare(x -> x.row(1, 40), x -> x.lay(1, 39, -3)), x -> x.lay(1, 39, 9), 1, -3);
        tells(p, "the least int it was", bare(fill(1, LEAST)), x -> x.lay(1, 0, 0), 1, LEAST);
        tells(p, "the greatest int it was", bare(fill(1, MOST)), x -> x.lay(1, 0, 0), 1, MOST);
        tells(p, "0 it was at first", bare(x -> x.row(1, 1)), x -> x.lay(1, 0, 7), 1, 0);
        for (int v : new int[] {LEAST, -1, 0, 1, 127, 128, 255, 256, 65536, MOST}) {
            test(p, "it is " + v + " then", () -> holds(bare(fill(1, 3, 4, 5), x -> x.lay(1, 1, v)).make(), 1, 3, v, 5));
        }
        test(p, "the same place of other ROWS stays", () -> {
            HemLine x = bare(fill(0, 1, 2), fill(1, 3, 4), fill(2, 5, 6), y -> y.lay(1, 1, 9)).make();
            holds(x, 0, 1, 2);
            holds(x, 1, 3, 9);
            holds(x, 2, 5, 6);
        });
    }

    private static void at() {
        String p = "4 at";
        tells(p, "ROW 0 is the first", bare(fill(0, 4)), x -> x.at(0, 0), 1, 4);
        tells(p, "ROW 5 is the last", bare(fill(5, 4)), x -> x.at(5, 0), 1, 4);
        tells(p, "place 0 is the first", bare(fill(1, 4, 5, 6)), x -> x.at(1, 0), 1, 4);
        tells(p, "the last place", bare(fill(1, 4, 5, 6)), x -> x.at(1, 2), 1, 6);
        tells(p, "place 39 of 40", bare(x -> x.row(1, 40), x -> x.lay(1, 39, -3)), x -> x.at(1, 39), 1, -3);
        tells(p, "the least int", bare(fill(1, LEAST)), x -> x.at(1, 0), 1, LEAST);
        tells(p, "the greatest int", bare(fill(1, MOST)), x -> x.at(1, 0), 1, MOST);
        test(p, "nothing but asked() changes", () -> {
            HemLine x = rich().make();
            long digest = x.digest();
            x.at(0, 2);
            is("digest()", x.digest(), digest);
            holds(x, 0, 7, -8, 9);
        });
    }

    private static void placesRefused(String p, Numbered place, Numbered row, Numbered below) {
        bad(p, "ROW", rich(), row, NO_ROWS);
        for (int i : new int[] {-1, 3, 4, LEAST, MOST}) {
            finds(p, "place " + i + " of 3 is beyond", rich(), place.by(i), BEYOND);
        }
        finds(p, "place 0 of a ROW of 0 places is beyond", rich(), row.by(1), BEYOND);
        finds(p, "place 40 of 40 is beyond", bare(x -> x.row(0, 40), x -> x.lay(0, 39, 5)), place.by(40), BEYOND);
        finds(p, "place 1 of what is shorter now is beyond",
            bare(fill(0, 5, 6, 7), fill(1, 8), x -> x.at(1, 0), x -> x.row(0, 1)), place.by(1), BEYOND);
        finds(p, "a ROW that is missing", rich(), row.by(3), NOTHING);
        finds(p, "a ROW that is torn", rich(x -> x.tear(0)), place.by(0), NOTHING);
        refused(p, "BAD (6) is ahead of BEYOND", rich(), below.by(6), BAD);
        refused(p, "BAD (-1) is ahead of BEYOND", rich(), below.by(-1), BAD);
        finds(p, "NOTHING is ahead of BEYOND", rich(), below.by(3), NOTHING);
    }

    private static void tear() {
        String p = "5 tear";
        answers(p, "ROW 0 is the first", bare(x -> x.row(0, 3)), x -> x.tear(0), 1);
        answers(p, "ROW 5 is the last", bare(x -> x.row(5, 3)), x -> x.tear(5), 1);
        answers(p, "a ROW of 0 places", bare(x -> x.row(1, 0)), x -> x.tear(1), 1);
        answers(p, "a ROW of 40 places", bare(x -> x.row(1, 40)), x -> x.tear(1), 1);
        finds(p, "it is missing then", rich(x -> x.tear(0)), x -> x.at(0, 0), NOTHING);
        finds(p, "it can't be torn again", rich(x -> x.tear(0)), x -> x.tear(0), NOTHING);
        finds(p, "a ROW that never was", rich(), x -> x.tear(5), NOTHING);
        bad(p, "ROW", rich(), r -> x -> x.tear(r), NO_ROWS);
        test(p, "the other ROWS, TEXTS stay", () -> {
            HemLine x = rich(y -> y.tear(2)).make();
            holds(x, 0, 7, -8, 9);
            holds(x, 1);
            holds(x, 4, 9, 5);
            is("count(8)", x.count(8), 3);
            is("count(9)", x.count(9), 3);
        });
        test(p, "asked() stays", () -> is("asked()", rich(y -> y.tear(0)).make().asked(), 7));
    }

    /** ROWS 0 (1 .. 5), 1 (7, 8, 9), 2 (none), 3 (40: 100 .. 139), 4 (40: 0); 5 is missing. */
    private static Made rows(Call... steps) {
        int[] many = new int[40];
        for (int i = 0; i < 40; i++) {
            many[i] = 100 + i;
        }
        return () -> {
            HemLine x = bare(fill(0, 1, 2, 3, 4, 5), fill(1, 7, 8, 9), y -> y.row(2, 0), fill(3, many),
                y -> y.row(4, 40), y -> y.at(1, 2)).make();
            for (Call step : steps) {
                step.on(x);
            }
            return x;
        };
    }

    private static void copies(String boundary, Call call, int r, int... values) {
        test("6 copy", boundary, () -> {
            HemLine x = rows().make();
            is("answer", call.on(x), 1);
            holds(x, r, values);
            is("asked() has only been of the last place", x.asked(), values.length == 0 ? 9 : values[values.length - 1]);
        });
    }

    private static void copy() {
        String p = "6 copy";
        copies("from the first place to the first one", x -> x.copy(0, 0, 1, 0, 1), 1, 1, 8, 9);
        copies("from the last place to the last one", x -> x.copy(0, 4, 1, 2, 1), 1, 7, 8, 5);
        copies("as many as there are up to the end of the one taken from", x -> x.copy(1, 1, 0, 0, 2), 0, 8, 9, 3, 4, 5);
        copies("as many as there are up to the end of the one come to", x -> x.copy(0, 0, 1, 1, 2), 1, 7, 1, 2);
        copies("a whole ROW", x -> x.copy(0, 1, 1, 0, 3), 1, 2, 3, 4);
        copies("0 places", x -> x.copy(0, 0, 1, 0, 0), 1, 7, 8, 9);
        copies("0 places from its size on", x -> x.copy(0, 5, 1, 0, 0), 1, 7, 8, 9);
        copies("0 places to its size on", x -> x.copy(0, 0, 1, 3, 0), 1, 7, 8, 9);
        copies("0 places from a ROW of 0 places", x -> x.copy(2, 0, 1, 1, 0), 1, 7, 8, 9);
        copies("0 places to a ROW of 0 places", x -> x.copy(1, 1, 2, 0, 0), 2);
        copies("0 places of a ROW of 0 places to itself", x -> x.copy(2, 0, 2, 0, 0), 2);
        copies("to itself a place further, as if taken ahead", x -> x.copy(0, 0, 0, 1, 4), 0, 1, 1, 2, 3, 4);
        copies("to itself a place back, as if taken ahead", x -> x.copy(0, 1, 0, 0, 4), 0, 2, 3, 4, 5, 5);
        copies("to itself two places further", x -> x.copy(0, 0, 0, 2, 3), 0, 1, 2, 1, 2, 3);
        copies("to itself where it is", x -> x.copy(0, 0, 0, 0, 5), 0, 1, 2, 3, 4, 5);
        copies("what it is taken from stays", x -> x.copy(0, 0, 1, 0, 3), 0, 1, 2, 3, 4, 5);
        copies("from ROW 0, to ROW 3: the rest of its places stays", x -> x.copy(3, 1, 1, 1, 1), 1, 7, 101, 9);
        test(p, "40 places", () -> {
            HemLine x = rows().make();
            is("answer", x.copy(3, 0, 4, 0, 40), 1);
            is("place 0", asked(x, y -> y.at(4, 0)), 100);
            is("place 39", asked(x, y -> y.at(4, 39)), 139);
        });
        test(p, "from the first ROW to the last one", () -> {
            HemLine x = rows(y -> y.row(5, 2)).make();
            is("answer", x.copy(0, 3, 5, 0, 2), 1);
            holds(x, 5, 4, 5);
        });
        test(p, "from the last ROW to the first one", () -> {
            HemLine x = rows(fill(5, -1, -2)).make();
            is("answer", x.copy(5, 0, 0, 3, 2), 1);
            holds(x, 0, 1, 2, 3, -1, -2);
        });
    }

    private static void copyRefused() {
        String p = "6 copy";
        bad(p, "a ROW taken from", rows(), r -> x -> x.copy(r, 0, 1, 0, 0), NO_ROWS);
        bad(p, "a ROW come to", rows(), r -> x -> x.copy(0, 0, r, 0, 0), NO_ROWS);
        finds(p, "-1 places", rows(), x -> x.copy(0, 0, 1, 0, -1), SIZE);
        finds(p, "LEAST places", rows(), x -> x.copy(0, 0, 1, 0, LEAST), SIZE);
        finds(p, "the one taken from is missing", rows(), x -> x.copy(5, 0, 1, 0, 0), NOTHING);
        finds(p, "the one come to is missing", rows(), x -> x.copy(0, 0, 5, 0, 0), NOTHING);
        finds(p, "both are missing, one and the same", rows(), x -> x.copy(5, 0, 5, 0, 0), NOTHING);
        int[][] beyond = {{-1, 0, 0}, {6, 0, 0}, {0, -1, 0}, {0, 4, 0}, {-1, 0, 1}, {0, -1, 1}, {5, 0, 1}, {0, 3, 1},
            {4, 0, 2}, {0, 2, 2}, {0, 0, 4}, {0, 0, 41}, {LEAST, 0, 0}, {0, LEAST, 0}, {MOST, 0, 0}, {0, MOST, 0},
            {0, 0, MOST}, {1, 0, MOST}, {0, 1, MOST}, {MOST, 0, MOST}, {0, MOST, MOST}, {MOST, 0, 1}, {0, MOST, 1},
            {LEAST, 0, MOST}, {0, LEAST, MOST}};
        for (int[] b : beyond) {
            finds(p, "from " + b[0] + " of 5 to " + b[1] + " of 3, " + b[2] + " places", rows(),
                x -> x.copy(0, b[0], 1, b[1], b[2]), BEYOND);
        }
        finds(p, "more than the one taken from has", rows(), x -> x.copy(1, 0, 0, 0, 4), BEYOND);
        finds(p, "1 place of a ROW of 0 places", rows(), x -> x.copy(2, 0, 0, 0, 1), BEYOND);
        finds(p, "1 place to a ROW of 0 places", rows(), x -> x.copy(0, 0, 2, 0, 1), BEYOND);
        finds(p, "from place 1 of a ROW of 0 places", rows(), x -> x.copy(2, 1, 0, 0, 0), BEYOND);
        finds(p, "to place 1 of a ROW of 0 places", rows(), x -> x.copy(0, 0, 2, 1, 0), BEYOND);
        finds(p, "41 of 40 places", rows(), x -> x.copy(3, 0, 4, 0, 41), BEYOND);
        finds(p, "40 places from 1 on", rows(), x -> x.copy(3, 1, 4, 0, 40), BEYOND);
        finds(p, "40 places to 1 on", rows(), x -> x.copy(3, 0, 4, 1, 40), BEYOND);
        finds(p, "to itself beyond the end", rows(), x -> x.copy(0, 0, 0, 1, 5), BEYOND);
        finds(p, "places of a ROW that is shorter now", rows(x -> x.row(3, 2)), x -> x.copy(3, 0, 4, 0, 3), BEYOND);
    }

    private static void copyInOrder() {
        String p = "6 copy";
        refused(p, "BAD (from) is ahead of SIZE", rows(), x -> x.copy(6, 0, 1, 0, -1), BAD);
        refused(p, "BAD (to) is ahead of SIZE", rows(), x -> x.copy(0, 0, 6, 0, -1), BAD);
        refused(p, "BAD (from) is ahead of NOTHING", rows(), x -> x.copy(6, 0, 5, 0, 0), BAD);
        refused(p, "BAD (to) is ahead of NOTHING", rows(), x -> x.copy(5, 0, 6, 0, 0), BAD);
        refused(p, "BAD (from) is ahead of BEYOND", rows(), x -> x.copy(6, 0, 1, 4, 0), BAD);
        refused(p, "BAD (to) is ahead of BEYOND", rows(), x -> x.copy(0, 6, 6, 0, 0), BAD);
        finds(p, "SIZE is ahead of NOTHING (from)", rows(), x -> x.copy(5, 0, 1, 0, -1), SIZE);
        finds(p, "SIZE is ahead of NOTHING (to)", rows(), x -> x.copy(0, 0, 5, 0, -1), SIZE);
        finds(p, "SIZE is ahead of BEYOND (from)", rows(), x -> x.copy(0, -1, 1, 0, -1), SIZE);
        finds(p, "SIZE is ahead of BEYOND (to)", rows(), x -> x.copy(0, 0, 1, 4, -1), SIZE);
        finds(p, "NOTHING (from) is ahead of BEYOND", rows(), x -> x.copy(5, 0, 1, 4, 0), NOTHING);
        finds(p, "NOTHING (to) is ahead of BEYOND", rows(), x -> x.copy(0, 6, 5, 0, 0), NOTHING);
    }

    private static void means(String boundary, int mean, int... values) {
        tells("7 mean", boundary, bare(fill(3, values)), x -> x.mean(3), 1, mean);
    }

    private static void mean() {
        String p = "7 mean";
        means("of one int", 7, 7);
        means("of 40 ints", 20, range(40));
        means("of 40 ints, each the greatest one: their sum is no int", MOST, same(40, MOST));
        means("of 40 ints, each the least one", LEAST, same(40, LEAST));
        means("of the least and the greatest one, cut", 0, LEAST, MOST);
        means("of two, the sum 1 above an int", 1073741824, MOST, 1);
        means("1, 0: cut", 0, 1, 0);
        means("1, 1: nothing to cut", 1, 1, 1);
        means("3, 2: cut", 2, 3, 2);
        means("-1, 0: cut", 0, -1, 0);
        means("-3, 0: cut", -1, -3, 0);
        means("-2, 0: nothing to cut", -1, -2, 0);
        means("5, 5, 4: cut", 4, 5, 5, 4);
        means("-5, -5, -4: cut", -4, -5, -5, -4);
        tells(p, "ROW 0 is the first", bare(fill(0, 4)), x -> x.mean(0), 1, 4);
        tells(p, "ROW 5 is the last", bare(fill(5, 4)), x -> x.mean(5), 1, 4);
        tells(p, "only of the places that there are now", bare(fill(1, same(40, 99)), x -> x.row(1, 2),
            x -> x.lay(1, 0, 6), x -> x.lay(1, 1, 8)), x -> x.mean(1), 1, 7);
        bad(p, "ROW", rich(), r -> x -> x.mean(r), NO_ROWS);
        finds(p, "a ROW that is missing", rich(), x -> x.mean(5), NOTHING);
        finds(p, "a ROW of 0 places: shared among none", rich(), x -> x.mean(1), NOUGHT);
        test(p, "the ROW stays", () -> holds(rich(x -> x.mean(0)).make(), 0, 7, -8, 9));
    }

    private static int[] range(int many) {
        int[] values = new int[many];
        for (int i = 0; i < many; i++) {
            values[i] = i + 1;
        }
        return values;
    }

    private static int[] same(int many, int v) {
        int[] values = new int[many];
        java.util.Arrays.fill(values, v);
        return values;
    }
}
