import java.math.BigInteger;
import java.util.ArrayList;
import java.util.List;

/** Boundaries of promises 38 to 44: asked, upper, lower, count, finding, findings, digest; and of the constants. */
public final class ToldBoundsTest extends Bounds {
    private static final String ONE = "d0000000w010";

    public static void main(String[] args) {
        constants();
        asked();
        askedStays();
        askedStaysBehindRefused();
        upperAndLower();
        upperAndLowerStay();
        count();
        countOfThings();
        countRefused();
        finding();
        findings();
        digestOfMissing();
        digestOfRowsTexts();
        digestOfDelta();
        digestAtMost();
        digestStays();
        end();
    }

    private static void constants() {
        test("0 face", "the answers", () -> {
            is("BAD", HemLine.BAD, -1);
            is("FULL", HemLine.FULL, -2);
            is("FINDING", HemLine.FINDING, -3);
            is("STATE", HemLine.STATE, -4);
            is("SPENT", HemLine.SPENT, -6);
            is("NONE", HemLine.NONE, -9);
        });
    }

    // ---- asked

    private static void asked() {
        String p = "38 asked";
        answers(p, "0 before", bare(), x -> x.asked(), 0);
        answers(p, "0 before, a DELTA is there", by(ONE, floods(3)), x -> x.asked(), 0);
        tells(p, "lay() tells what it was", rich(), x -> x.lay(0, 1, 5), 1, -8);
        tells(p, "at()", rich(), x -> x.at(0, 1), 1, -8);
        tells(p, "mean()", rich(), x -> x.mean(4), 1, 7);
        tells(p, "woman()", rich(), x -> x.woman(5, 2), 1, 9);
        tells(p, "know()", rich(), x -> x.know(0, 0), ALL_HEIGHTS, 21);
        tells(p, "look()", by("d0000000w010w020", floods(9)), x -> x.look(0, 0), 1, 19);
        tells(p, "looks()", by("d0000000w010w020", floods(9)), x -> x.looks(0), 1, 2);
        tells(p, "line()", by("d0000000w020w010", floods(9)), x -> x.line(0), 1, 1);
        tells(p, "test()", by("d0000000w061", x -> x.row(0, 0)), x -> x.test(0, 0), 1, 3);
        tells(p, "whose()", by("d0000000w020w010", fill(0, 1), floods(9)), x -> x.whose(0), 2, 2);
        tells(p, "0 is told, too", rich(), x -> x.woman(0, 0), 1, 0);
        tells(p, "a number below 0 is told, too", bare(fill(0, LEAST)), x -> x.at(0, 0), 1, LEAST);
        answers(p, "the latest of two", rich(x -> x.at(0, 0), x -> x.at(0, 2)), x -> x.asked(), 9);
        answers(p, "it stays when it is asked", rich(x -> x.asked()), x -> x.asked(), 7);
        answers(p, "it stays when what told it is gone", rich(x -> x.tear(0), x -> x.delta(0)), x -> x.asked(), 7);
    }

    private static void stays(String promise, String what, Call call) {
        test(promise, what + " leaves it", () -> {
            HemLine x = rich(y -> y.row(5, 2)).make();
            is("refused", call.on(x) == BAD ? 1 : 0, 0);
            is("asked()", x.asked(), 7);
        });
    }

    private static void askedStays() {
        String[] names = {"row", "tear", "copy", "text", "put", "fault", "delta", "mark", "hem", "would", "flood", "move",
            "dyke", "tuck", "undo", "keep", "on", "high", "kinds", "raise", "dry", "least", "duel", "odds", "mid",
            "lots", "upper", "lower", "count", "finding", "findings", "digest"};
        Call[] calls = {x -> x.row(3, 9), x -> x.tear(0), x -> x.copy(0, 0, 2, 0, 3), x -> x.text(3, 9),
            x -> x.put(0, 0, 9), x -> x.fault(1), x -> x.delta(0), x -> x.mark(1, 1), x -> x.hem(1, 1),
            x -> x.would(1, 9), x -> x.flood(3), x -> x.move(0, 1), x -> x.dyke(0), x -> x.tuck(0), x -> x.undo(0),
            x -> x.keep(2), x -> x.on(0), x -> x.high(0), x -> x.kinds(0, 1), x -> x.raise(2, 9, 5), x -> x.dry(),
            x -> x.least(0, 9, 1), x -> x.duel(2, 9), x -> x.odds(1), x -> x.mid(), x -> x.lots(3, 9), x -> x.upper(),
            x -> x.lower(), x -> x.count(2), x -> x.finding(), x -> x.findings(1), x -> x.digest()};
        for (int k = 0; k < calls.length; k++) {
            stays("38 asked", names[k] + "()", calls[k]);
        }
    }

    private static void askedStaysBehindRefused() {
        String p = "38 asked";
        refused(p, "lay() refused", rich(), x -> x.lay(6, 0, 1), BAD);
        refused(p, "at() refused", rich(), x -> x.at(6, 0), BAD);
        finds(p, "mean() refused", rich(), x -> x.mean(1), NOUGHT);
        refused(p, "woman() refused", rich(), x -> x.woman(0, 6), BAD);
        refused(p, "know() refused", rich(), x -> x.know(0, 2), BAD);
        refused(p, "look() refused", rich(), x -> x.look(0, 2), BAD);
        none(p, "look() NONE", rich(), x -> x.look(63, 0));
        refused(p, "looks() refused", rich(), x -> x.looks(2), BAD);
        refused(p, "line() refused", rich(), x -> x.line(2), BAD);
        finds(p, "test() refused", rich(), x -> x.test(0, 0), SIZE);
        none(p, "test() NONE", rich(fill(3, 20, 10, 0, 0)), x -> x.test(0, 3));
        finds(p, "whose() refused", rich(), x -> x.whose(0), SIZE);
    }

    // ---- upper, lower

    private static void upperAndLower() {
        answers("39 upper", "0 before", bare(), x -> x.upper(), 0);
        answers("40 lower", "1 before", bare(), x -> x.lower(), 1);
        answers("39 upper", "0 before, floods were", by(ONE, floods(3, 4)), x -> x.upper(), 0);
        answers("40 lower", "1 before, floods were", by(ONE, floods(3, 4)), x -> x.lower(), 1);
        answers("39 upper", "of odds()", by(ONE, floods(0, 0, 5), x -> x.odds(1)), x -> x.upper(), 1);
        answers("40 lower", "of odds()", by(ONE, floods(0, 0, 5), x -> x.odds(1)), x -> x.lower(), 3);
        answers("39 upper", "of mid()", by(ONE, floods(0, 0, 5), x -> x.mid()), x -> x.upper(), 5);
        answers("40 lower", "of mid()", by(ONE, floods(0, 0, 5), x -> x.mid()), x -> x.lower(), 3);
        answers("39 upper", "the last of two", by(ONE, floods(0, 5), x -> x.odds(1), x -> x.mid()), x -> x.upper(), 5);
        answers("40 lower", "the last of two", by(ONE, floods(0, 5), x -> x.mid(), x -> x.odds(0)), x -> x.lower(), 1);
        answers("39 upper", "0 by 1", by(ONE, floods(5, 0), x -> x.odds(1), x -> x.odds(2)), x -> x.upper(), 0);
        answers("40 lower", "0 by 1", by(ONE, floods(5, 0), x -> x.odds(1), x -> x.odds(2)), x -> x.lower(), 1);
        answers("39 upper", "the greatest", by("d0000000w010w010w010w010w010w010", floods(20), x -> x.mid()),
            x -> x.upper(), 120);
        answers("40 lower", "the greatest", by(ONE, floods(1, 0, 0, 0, 0, 0, 0, 0), x -> x.mid()), x -> x.lower(), 8);
    }

    private static void upperAndLowerStay() {
        Made told = by(ONE, floods(0, 0, 5), x -> x.mid());
        Call[] calls = {x -> x.odds(7), x -> x.undo(0) + x.mid() + x.odds(1), x -> x.flood(9), x -> x.delta(0),
            x -> x.know(1, 0), x -> x.dry(), x -> x.upper() + x.lower(), x -> x.on(0)};
        String[] names = {"odds() refused", "odds(), mid() without floods", "a flood", "another DELTA", "know()", "dry()",
            "upper(), lower()", "on()"};
        for (int k = 0; k < calls.length; k++) {
            Call call = calls[k];
            test("39 upper", names[k] + " leaves it", () -> {
                HemLine x = told.make();
                call.on(x);
                is("upper()", x.upper(), 5);
            });
            test("40 lower", names[k] + " leaves it", () -> {
                HemLine x = told.make();
                call.on(x);
                is("lower()", x.lower(), 3);
            });
        }
    }

    // ---- count

    private static void counts(String boundary, Made made, int what, int due) {
        answers("41 count", what + " " + boundary, made, x -> x.count(what), due);
    }

    private static void count() {
        counts("no WOMEN", bare(), 0, 0);
        counts("1 WOMAN", by(ONE), 0, 1);
        counts("6 WOMEN", by(SIX), 0, 6);
        counts("no YEAR past", by(ONE), 1, 0);
        counts("1 YEAR past", by(ONE, floods(0)), 1, 1);
        counts("8 YEARS past", by(ONE, floods(new int[8])), 1, 8);
        counts("no DEEDS", by(ONE), 2, 0);
        counts("40 DEEDS", by(ONE, moves(40)), 2, 40);
        counts("each DEED", by("d0000001w010", x -> x.flood(1), x -> x.move(0, 1), x -> x.dyke(0), x -> x.tuck(0)), 2,
            4);
        counts("no EARTH", by(ONE), 3, 0);
        counts("EARTH 9", by("d0000009w010"), 3, 9);
        counts("EARTH that was used", by("d0000009w010", x -> x.dyke(0)), 3, 8);
        counts("EARTH without a DELTA", bare(), 3, 0);
        counts("no GROUND", by(ONE), 4, 0);
        counts("all GROUND 9", by("d9999990w010"), 4, 54);
        counts("GROUND of the first PLACE alone", by("d9000000w010"), 4, 9);
        counts("GROUND of the last PLACE alone", by("d0000090w010"), 4, 9);
        counts("GROUND by a dyke", by("d0000091w010", x -> x.dyke(0)), 4, 10);
        counts("GROUND without a DELTA", bare(), 4, 0);
        counts("no TUCKS", by(ONE), 5, 0);
        counts("six TUCKS of 3", by("d0000000w013w013w013w013w013w013"), 5, 18);
        counts("TUCKS of the first WOMAN alone", by("d0000000w013w010"), 5, 3);
        counts("TUCKS of the last WOMAN alone", by("d0000000w010w013"), 5, 3);
        counts("TUCKS by a DEED", by("d0000000w010w010", x -> x.tuck(1)), 5, 1);
        counts("TUCKS of fewer WOMEN than there were", by("d0000000w013w013", x -> write(x, 0, ONE), x -> x.delta(0)),
            5, 0);
        counts("no flood", by(ONE), 6, 0);
        counts("a flood of 0", by(ONE, floods(5, 0)), 6, 0);
        counts("a flood of 20", by(ONE, floods(5, 20)), 6, 20);
        counts("the last of eight floods", by(ONE, floods(1, 2, 3, 4, 5, 6, 7, 8)), 6, 8);
        counts("the last flood, though DEEDS came since", by(ONE, floods(5), x -> x.tuck(0)), 6, 5);
        counts("the last flood that was not undone", by(ONE, floods(5, 20), x -> x.undo(1)), 6, 5);
        counts("without a DELTA", bare(), 6, 0);
    }

    private static void countOfThings() {
        counts("no BRIDES", by("d0000000w010l010v010a010"), 7, 0);
        counts("a BRIDE", by("d0000000b010"), 7, 1);
        counts("a GIRL is a BRIDE", by("d0000000g010"), 7, 1);
        counts("six BRIDES", by("d0000000b010g010b010g010b010g010"), 7, 6);
        counts("the last alone is a BRIDE", by("d0000000w010w010w010w010w010b010"), 7, 1);
        counts("BRIDES without a DELTA", bare(), 7, 0);
        for (int n = 0; n <= 6; n++) {
            int many = n;
            counts("ROWS: " + n, bare(x -> {
                for (int r = 0; r < many; r++) {
                    x.row(r, r % 2);
                }
                return 0;
            }), 8, n);
        }
        for (int n = 0; n <= 4; n++) {
            int many = n;
            counts("TEXTS: " + n, bare(x -> {
                for (int t = 0; t < many; t++) {
                    x.text(t, t % 2);
                }
                return 0;
            }), 9, n);
        }
        for (int n = 0; n <= 3; n++) {
            int many = n;
            counts("kept DELTAS: " + n, bare(x -> write(x, 0, ONE), x -> x.delta(0), x -> {
                for (int k = 0; k < many; k++) {
                    x.keep(k);
                }
                return 0;
            }), 10, n);
        }
        counts("ROW 5 alone", bare(x -> x.row(5, 40)), 8, 1);
        counts("a ROW that is torn is none", bare(x -> x.row(5, 40), x -> x.row(0, 0), x -> x.tear(5)), 8, 1);
        counts("a ROW made twice is one", bare(x -> x.row(5, 40), x -> x.row(5, 3)), 8, 1);
        counts("TEXT 3 alone", bare(x -> x.text(3, 60)), 9, 1);
        counts("a TEXT made twice is one", bare(x -> x.text(3, 60), x -> x.text(3, 0)), 9, 1);
        counts("a DELTA kept at 2 alone", bare(x -> write(x, 0, ONE), x -> x.delta(0), x -> x.keep(2)), 10, 1);
        counts("kept ones stay when gone on from", by(ONE, x -> x.on(0)), 10, 1);
        counts("kept ones go by another DELTA", by(ONE, x -> x.keep(2), x -> x.delta(0)), 10, 0);
    }

    private static void countRefused() {
        bad("41 count", "what", rich(), what -> x -> x.count(what), -1, 11, LEAST, MOST);
        test("41 count", "asked() stays", () -> is("asked()", rich(x -> x.count(10)).make().asked(), 7));
    }

    // ---- finding, findings

    private static final Call[] FINDING_CALLS = {x -> x.tear(5), x -> x.at(0, 3), x -> x.mark(0, 1), x -> x.mean(1),
        x -> x.row(0, -1)};

    private static void finding() {
        String p = "42 finding";
        answers(p, "0 before any", bare(), x -> x.finding(), 0);
        answers(p, "0 where none was answered", rich(), x -> x.finding(), 0);
        for (int f = 1; f <= 5; f++) {
            Call call = FINDING_CALLS[f - 1], other = FINDING_CALLS[f % 5];
            answers(p, "FINDING " + f, rich(call), x -> x.finding(), f);
            answers(p, "FINDING " + f + " is the latest", rich(other, call), x -> x.finding(), f);
            answers(p, "FINDING " + f + " was the latest but one", rich(call, other), x -> x.finding(), f % 5 + 1);
        }
        String[] names = {"BAD", "STATE", "FULL", "SPENT", "NONE", "what is well", "another DELTA", "on()"};
        Call[] calls = {x -> x.row(6, 0), x -> x.move(1, 1), x -> x.lots(20, 1) + x.lots(20, 1),
            x -> x.dyke(2) + x.dyke(2) + x.dyke(2) + x.dyke(2) + x.dyke(0), x -> x.look(63, 0), x -> x.at(0, 0),
            x -> x.delta(0), x -> x.on(0)};
        for (int k = 0; k < calls.length; k++) {
            answers(p, names[k] + " leaves it", rich(FINDING_CALLS[2], calls[k]), x -> x.finding(), 3);
            Call call = calls[k];
            test("43 findings", names[k] + " leaves them", () -> {
                HemLine x = rich(FINDING_CALLS[2], call).make();
                for (int f = 1; f <= 5; f++) {
                    is("findings(" + f + ")", x.findings(f), f == 3 ? 1 : 0);
                }
            });
        }
    }

    private static void findings() {
        String p = "43 findings";
        for (int k = 1; k <= 5; k++) {
            int f = k;
            answers(p, f + " was not answered", rich(), x -> x.findings(f), 0);
            test(p, f + " alone was answered, three times", () -> {
                HemLine x = rich(FINDING_CALLS[f - 1], FINDING_CALLS[f - 1], FINDING_CALLS[f - 1]).make();
                for (int other = 1; other <= 5; other++) {
                    is("findings(" + other + ")", x.findings(other), other == f ? 3 : 0);
                }
            });
        }
        answers(p, "very often", bare(x -> {
            for (int k = 0; k < 500; k++) {
                x.tear(0);
            }
            return 0;
        }), x -> x.findings(1), 500);
        answers(p, "another DELTA leaves how often", rich(FINDING_CALLS[4], x -> x.delta(0)), x -> x.findings(5), 1);
        bad(p, "FINDING", rich(FINDING_CALLS), f -> x -> x.findings(f), -1, 0, 6, LEAST, MOST);
    }

    // ---- digest

    private static long digestBy(List<Integer> values) {
        BigInteger h = BigInteger.valueOf(17);
        for (int v : values) {
            h = h.multiply(BigInteger.valueOf(31)).add(BigInteger.valueOf(v));
        }
        return h.longValue();
    }

    private static List<Integer> ints(int... values) {
        List<Integer> all = new ArrayList<>();
        for (int v : values) {
            all.add(v);
        }
        return all;
    }

    private static void digestIs(String boundary, Made made, int... values) {
        answers("44 digest", boundary, made, x -> x.digest(), digestBy(ints(values)));
    }

    private static void digestOfMissing() {
        digestIs("all is missing", bare(),
            0, 0, 0, 0, 0, 0, 0, 0, 0, 0, 0,
            0, 0, 0, 0, 0, 0,
            -1, -1, -1,
            -1, -1, -1, -1, -1, -1,
            -1, -1, -1, -1);
        digestIs("a ROW of 0 places is not missing", bare(x -> x.row(0, 0), x -> x.row(5, 0)),
            0, 0, 0, 0, 0, 0, 0, 0, 2, 0, 0,
            0, 0, 0, 0, 0, 0,
            -1, -1, -1,
            0, -1, -1, -1, -1, 0,
            -1, -1, -1, -1);
        digestIs("a TEXT of 0 bytes is not missing", bare(x -> x.text(0, 0), x -> x.text(3, 0)),
            0, 0, 0, 0, 0, 0, 0, 0, 0, 2, 0,
            0, 0, 0, 0, 0, 0,
            -1, -1, -1,
            -1, -1, -1, -1, -1, -1,
            0, -1, -1, 0);
    }

    private static void digestOfRowsTexts() {
        digestIs("places of ROWS, the least and the greatest int", bare(fill(0, LEAST, MOST), fill(5, -1, 0, 1)),
            0, 0, 0, 0, 0, 0, 0, 0, 2, 0, 0,
            0, 0, 0, 0, 0, 0,
            -1, -1, -1,
            2, LEAST, MOST, -1, -1, -1, -1, 3, -1, 0, 1,
            -1, -1, -1, -1);
        digestIs("bytes of TEXTS, blanks, the least and the greatest byte",
            bare(x -> x.text(0, 3), x -> x.put(0, 0, 128), x -> x.put(0, 2, 127), x -> x.text(3, 1)),
            0, 0, 0, 0, 0, 0, 0, 0, 0, 2, 0,
            0, 0, 0, 0, 0, 0,
            -1, -1, -1,
            -1, -1, -1, -1, -1, -1,
            3, -128, 32, 127, -1, -1, 1, 32);
        digestIs("a ROW that is shorter now", bare(fill(2, 7, 8, 9), x -> x.row(2, 1)),
            0, 0, 0, 0, 0, 0, 0, 0, 1, 0, 0,
            0, 0, 0, 0, 0, 0,
            -1, -1, -1,
            -1, -1, 1, 0, -1, -1, -1,
            -1, -1, -1, -1);
    }

    private static void digestOfDelta() {
        digestIs("a DELTA without YEARS, DEEDS", by("d1234567g593", x -> x.text(0, 0)),
            1, 0, 0, 7, 21, 3, 0, 1, 0, 1, 1,
            1, 2, 3, 4, 5, 6,
            4, 5, 9, 3, 0, 0,
            0, -1, -1,
            -1, -1, -1, -1, -1, -1,
            0, -1, -1, -1);
        digestIs("her HEMS behind each WOMAN", by("d0000001w090b011", floods(7, 0), x -> x.text(0, 0), x -> x.keep(2)),
            2, 2, 2, 1, 0, 1, 0, 1, 0, 1, 2,
            0, 0, 0, 0, 0, 0,
            0, 0, 9, 0, 2, 7, 7, 0,
            1, 0, 1, 1, 2, 2, 2, 2,
            0, -1, 2,
            -1, -1, -1, -1, -1, -1,
            0, -1, -1, -1);
    }

    /** What digest() is made of, by the other calls. */
    private static List<Integer> parts(HemLine x, int[] kept) {
        List<Integer> all = new ArrayList<>();
        for (int what = 0; what <= 10; what++) {
            all.add(x.count(what));
        }
        for (int k = 0; k < 6; k++) {
            all.add(9);
        }
        for (int i = 0; i < 6; i++) {
            for (int what = 0; what < 6; what++) {
                x.woman(i, what);
                all.add(x.asked());
            }
            for (int y = 0; y < 8; y++) {
                all.add(x.hem(i, y));
            }
        }
        for (int deeds : kept) {
            all.add(deeds);
        }
        return all;
    }

    private static void digestAtMost() {
        test("44 digest", "all is full: h goes round", () -> {
            HemLine x = by("d9999999w093b193l293v393g493a593", floods(20, 19, 18, 17, 16, 15, 14, 13), moves(32),
                y -> y.keep(1), y -> y.keep(2)).make();
            for (int r = 0; r < 6; r++) {
                x.row(r, 40);
                x.lay(r, r, -r);
                x.lay(r, 39, MOST - r);
            }
            for (int t = 0; t < 4; t++) {
                x.text(t, 60);
                x.put(t, 59, 128 + t);
            }
            List<Integer> all = parts(x, new int[] {0, 40, 40});
            for (int r = 0; r < 6; r++) {
                all.add(40);
                for (int i = 0; i < 40; i++) {
                    all.add(i == r ? -r : i == 39 ? MOST - r : 0);
                }
            }
            for (int t = 0; t < 4; t++) {
                all.add(60);
                for (int i = 0; i < 60; i++) {
                    all.add(i == 59 ? t - 128 : 32);
                }
            }
            is("digest()", x.digest(), digestBy(all));
        });
    }

    private static void digestStays() {
        test("44 digest", "asked(), upper(), lower(), finding() stay", () -> {
            HemLine x = rich(FINDING_CALLS[3], y -> y.digest()).make();
            is("asked()", x.asked(), 7);
            is("upper()", x.upper(), rich().make().upper());
            is("lower()", x.lower(), rich().make().lower());
            is("finding()", x.finding(), 4);
            is("findings(4)", x.findings(4), 1);
        });
        test("44 digest", "the same again", () -> {
            HemLine x = rich().make();
            is("digest()", x.digest(), x.digest());
        });
    }
}
