/** Promises 1 to 7: a new object, row, lay, at, tear, copy, mean. */
public final class RowsTest {
    private static final Check check = new Check();
    private static final int LEAST = Integer.MIN_VALUE, MOST = Integer.MAX_VALUE;

    public static void main(String[] args) {
        newObject();
        row();
        layAndAt();
        tear();
        copy();
        copyRefused();
        mean();
        check.end();
    }

    private static void newObject() {
        HemLine x = new HemLine();
        for (int what = 0; what <= 10; what++) {
            check.due("count(" + what + ")", x.count(what), 0);
        }
        check.due("asked()", x.asked(), 0);
        check.due("upper()", x.upper(), 0);
        check.due("lower()", x.lower(), 1);
        check.due("finding()", x.finding(), 0);
        for (int f = 1; f <= 5; f++) {
            check.due("findings(" + f + ")", x.findings(f), 0);
        }
        for (int r = 0; r < 6; r++) {
            check.due("at(" + r + ", 0)", x.at(r, 0), HemLine.FINDING);
        }
        for (int t = 0; t < 4; t++) {
            check.due("fault(" + t + ")", x.fault(t), HemLine.FINDING);
        }
        check.due("findings(1)", x.findings(1), 10);
        check.due("undo(0)", x.undo(0), 0);
    }

    private static void row() {
        HemLine x = new HemLine();
        check.due("row(0, 0)", x.row(0, 0), 0);
        check.due("row(5, 40)", x.row(5, 40), 40);
        check.due("count(8)", x.count(8), 2);
        check.due("lay(5, 39, 7)", x.lay(5, 39, 7), 1);
        check.due("asked()", x.asked(), 0);
        check.refused(x, "row(5, 41)", y -> y.row(5, 41), HemLine.BAD);
        check.refused(x, "row(-1, 2)", y -> y.row(-1, 2), HemLine.BAD);
        check.refused(x, "row(6, 2)", y -> y.row(6, 2), HemLine.BAD);
        check.refused(x, "row(6, -1)", y -> y.row(6, -1), HemLine.BAD);
        check.refused(x, "row(0, MOST)", y -> y.row(0, MOST), HemLine.BAD);
        check.refused(x, "row(LEAST, 0)", y -> y.row(LEAST, 0), HemLine.BAD);
        check.finding(x, "row(5, -1)", y -> y.row(5, -1), 5);
        check.finding(x, "row(5, LEAST)", y -> y.row(5, LEAST), 5);
        check.due("at(5, 39)", x.at(5, 39), 1);
        check.due("asked()", x.asked(), 7);
        check.due("row(5, 40) anew", x.row(5, 40), 40);
        x.at(5, 39);
        check.due("asked() anew", x.asked(), 0);
        check.due("row(5, 1)", x.row(5, 1), 1);
        check.finding(x, "at(5, 1)", y -> y.at(5, 1), 2);
        check.due("count(8)", x.count(8), 2);
    }

    private static void layAndAt() {
        HemLine x = new HemLine();
        x.row(3, 3);
        check.due("lay(3, 0, LEAST)", x.lay(3, 0, LEAST), 1);
        check.due("lay(3, 2, MOST)", x.lay(3, 2, MOST), 1);
        check.due("lay(3, 0, -5)", x.lay(3, 0, -5), 1);
        check.due("asked()", x.asked(), LEAST);
        check.due("at(3, 0)", x.at(3, 0), 1);
        check.due("asked()", x.asked(), -5);
        check.due("at(3, 2)", x.at(3, 2), 1);
        check.due("asked()", x.asked(), MOST);
        for (int r : new int[] {-1, 6, LEAST, MOST}) {
            check.refused(x, "lay(" + r + ", -1, 1)", y -> y.lay(r, -1, 1), HemLine.BAD);
            check.refused(x, "at(" + r + ", -1)", y -> y.at(r, -1), HemLine.BAD);
        }
        check.finding(x, "lay(2, -1, 1)", y -> y.lay(2, -1, 1), 1);
        check.finding(x, "at(2, -1)", y -> y.at(2, -1), 1);
        for (int i : new int[] {-1, 3, LEAST, MOST}) {
            check.finding(x, "lay(3, " + i + ", 1)", y -> y.lay(3, i, 1), 2);
            check.finding(x, "at(3, " + i + ")", y -> y.at(3, i), 2);
        }
    }

    private static void tear() {
        HemLine x = new HemLine();
        x.row(4, 2);
        check.refused(x, "tear(6)", y -> y.tear(6), HemLine.BAD);
        check.refused(x, "tear(-1)", y -> y.tear(-1), HemLine.BAD);
        check.finding(x, "tear(3)", y -> y.tear(3), 1);
        check.due("tear(4)", x.tear(4), 1);
        check.due("count(8)", x.count(8), 0);
        check.finding(x, "at(4, 0)", y -> y.at(4, 0), 1);
        check.finding(x, "tear(4)", y -> y.tear(4), 1);
        x.row(4, 0);
        check.due("tear(4)", x.tear(4), 1);
    }

    private static void holds(HemLine x, int r, int... values) {
        for (int i = 0; i < values.length; i++) {
            check.due("at(" + r + ", " + i + ")", x.at(r, i), 1);
            check.due("asked()", x.asked(), values[i]);
        }
    }

    private static void copy() {
        HemLine x = new HemLine();
        Check.fill(x, 0, 1, 2, 3, 4, 5);
        Check.fill(x, 1, 7, 8, 9);
        check.due("copy(0, 3, 1, 1, 2)", x.copy(0, 3, 1, 1, 2), 1);
        holds(x, 1, 7, 4, 5);
        check.due("copy(0, 0, 0, 1, 4)", x.copy(0, 0, 0, 1, 4), 1);
        holds(x, 0, 1, 1, 2, 3, 4);
        check.due("copy(0, 2, 0, 0, 3)", x.copy(0, 2, 0, 0, 3), 1);
        holds(x, 0, 2, 3, 4, 3, 4);
        check.due("copy(0, 5, 1, 3, 0)", x.copy(0, 5, 1, 3, 0), 1);
        check.due("copy(0, 0, 0, 0, 5)", x.copy(0, 0, 0, 0, 5), 1);
        holds(x, 0, 2, 3, 4, 3, 4);
        x.row(2, 0);
        check.due("copy(2, 0, 2, 0, 0)", x.copy(2, 0, 2, 0, 0), 1);
    }

    private static void copyRefused() {
        HemLine x = new HemLine();
        Check.fill(x, 0, 1, 2, 3);
        Check.fill(x, 1, 4, 5);
        check.refused(x, "copy(6, 0, 0, 0, -1)", y -> y.copy(6, 0, 0, 0, -1), HemLine.BAD);
        check.refused(x, "copy(-1, 0, 0, 0, 0)", y -> y.copy(-1, 0, 0, 0, 0), HemLine.BAD);
        check.refused(x, "copy(0, 0, 6, 0, -1)", y -> y.copy(0, 0, 6, 0, -1), HemLine.BAD);
        check.refused(x, "copy(0, 0, -1, 0, 0)", y -> y.copy(0, 0, -1, 0, 0), HemLine.BAD);
        check.finding(x, "copy(5, 0, 0, 0, -1)", y -> y.copy(5, 0, 0, 0, -1), 5);
        check.finding(x, "copy(0, 0, 1, 0, LEAST)", y -> y.copy(0, 0, 1, 0, LEAST), 5);
        check.finding(x, "copy(5, -1, 0, 0, 0)", y -> y.copy(5, -1, 0, 0, 0), 1);
        check.finding(x, "copy(0, -1, 5, 0, 0)", y -> y.copy(0, -1, 5, 0, 0), 1);
        int[][] beyond = {{-1, 0, 0}, {0, -1, 0}, {4, 0, 0}, {0, 3, 0}, {2, 0, 2}, {0, 1, 2}, {0, 0, 3}, {0, 0, MOST},
            {1, 1, MOST}, {MOST, 0, 1}, {0, MOST, 1}, {LEAST, 0, 0}, {-1, 0, 1}, {3, 0, 1}, {0, 2, 1}};
        for (int[] b : beyond) {
            check.finding(x, "copy(0, " + b[0] + ", 1, " + b[1] + ", " + b[2] + ")",
                y -> y.copy(0, b[0], 1, b[1], b[2]), 2);
        }
        holds(x, 1, 4, 5);
        check.due("copy(0, 3, 1, 2, 0)", x.copy(0, 3, 1, 2, 0), 1);
    }

    private static void mean() {
        HemLine x = new HemLine();
        int[][] rows = {{3, 4}, {-3, 0}, {-3, -4}, {7}, {MOST, MOST, MOST}, {LEAST, LEAST}, {LEAST, MOST}, {1, 1, 0}};
        int[] means = {3, -1, -3, 7, MOST, LEAST, 0, 0};
        for (int k = 0; k < rows.length; k++) {
            Check.fill(x, 2, rows[k]);
            check.due("mean(2) " + k, x.mean(2), 1);
            check.due("asked() " + k, x.asked(), means[k]);
        }
        x.row(1, 0);
        x.mean(2);
        check.finding(x, "mean(1)", y -> y.mean(1), 4);
        check.finding(x, "mean(0)", y -> y.mean(0), 1);
        check.refused(x, "mean(-1)", y -> y.mean(-1), HemLine.BAD);
        check.refused(x, "mean(6)", y -> y.mean(6), HemLine.BAD);
    }
}
