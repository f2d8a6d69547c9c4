import java.math.BigInteger;
import java.util.ArrayList;
import java.util.HashSet;
import java.util.List;
import java.util.Set;

/** What the tests of boundaries, sentences share: each has a name of its own, which begins with its promise, sentence. */
abstract class Bounds {
    static final int BAD = -1, FULL = -2, FINDING = -3, STATE = -4, SPENT = -6, NONE = -9;
    static final int NOTHING = 1, BEYOND = 2, UNLIKE = 3, NOUGHT = 4, SIZE = 5;
    static final int LEAST = Integer.MIN_VALUE, MOST = Integer.MAX_VALUE;
    static final int ALL_HEIGHTS = 2097151;
    /** One of each KIND at the PLACE of its number, whose GROUND is the same number. */
    static final String SIX = "d0123455 w051 b142 l232 v370 g420 a593";

    private static final Set<String> names = new HashSet<>();
    private static String name = "";
    private static int failed;
    private static boolean well;

    interface Call {
        long on(HemLine x);
    }

    interface Made {
        HemLine make();
    }

    interface Numbered {
        Call by(int n);
    }

    // ---- tests

    static void test(String promise, String boundary, Runnable body) {
        name = (Character.isDigit(promise.charAt(0)) ? "promise " : "") + promise + ": " + boundary;
        well = true;
        is("tests of one name", names.add(name) ? 1 : 2, 1);
        try {
            body.run();
        } catch (RuntimeException | Error e) {
            is("thrown: " + e, 1, 0);
        }
        failed += well ? 0 : 1;
    }

    static void is(String what, long got, long want) {
        if (got != want) {
            well = false;
            System.out.println(name + ": " + what + " is " + got + ", due is " + want);
        }
    }

    static void end() {
        System.out.println(names.size() + " tests, " + failed + " not as due");
        if (failed != 0) {
            throw new AssertionError(failed + " not as due");
        }
    }

    static void answers(String promise, String boundary, Made made, Call call, long answer) {
        test(promise, boundary, () -> is("answer", call.on(made.make()), answer));
    }

    /** What a call answers, and what asked() tells then: another number than ahead of it, so that it was told anew. */
    static void tells(String promise, String boundary, Made made, Call call, long answer, int told) {
        test(promise, boundary, () -> {
            HemLine x = made.make();
            is("answer", call.on(x), answer);
            is("asked()", x.asked(), told);
            HemLine other = made.make();
            askBesides(other, told);
            is("answer of another one", call.on(other), answer);
            is("asked() of another one", other.asked(), told);
        });
    }

    /** A ROW that is missing is made for a while, so that asked() is not what is due anyway. */
    private static void askBesides(HemLine x, int told) {
        for (int r = 0; r < 6; r++) {
            if (x.at(r, -1) == FINDING && x.finding() == NOTHING) {
                x.row(r, 1);
                x.lay(r, 0, told == 4242 ? 4243 : 4242);
                x.at(r, 0);
                x.tear(r);
                return;
            }
        }
    }

    /** What is refused otherwise than by a FINDING: nothing at all changes. */
    static void refused(String promise, String boundary, Made made, Call call, int answer) {
        test(promise, boundary, () -> {
            HemLine x = furnished(made, 0), same = furnished(made, 0);
            is("answer", call.on(x), answer);
            alike(x, same, 0);
        });
    }

    /** What is refused by a FINDING: nothing but finding(), findings() changes. */
    static void finds(String promise, String boundary, Made made, Call call, int which) {
        test(promise, boundary, () -> {
            HemLine x = furnished(made, which), same = furnished(made, which);
            is("finding() ahead is another one", same.finding() == which ? 1 : 0, 0);
            is("answer", call.on(x), FINDING);
            alike(x, same, which);
        });
    }

    /** What answers NONE changes nothing, asked() neither. */
    static void none(String promise, String boundary, Made made, Call call) {
        refused(promise, boundary, made, call, NONE);
        test(promise, boundary + " (asked() is told of)", () ->
            is("asked() is 0", furnished(made, 0).asked() == 0 ? 1 : 0, 0));
    }

    /** Each of these numbers is none: BAD. */
    static void bad(String promise, String what, Made made, Numbered call, int... numbers) {
        for (int n : numbers) {
            refused(promise, what + " " + n + " is none", made, call.by(n), BAD);
        }
    }

    // ---- nothing has changed

    private static HemLine furnished(Made made, int which) {
        HemLine x = made.make();
        x.mid();
        if (x.asked() == 0) {
            x.woman(x.count(0) - 1, 2);
        }
        if (which == NOTHING || which == BEYOND) {
            x.row(0, -1);
        } else if (which != 0) {
            x.at(0, -1);
        }
        return x;
    }

    private static void alike(HemLine x, HemLine same, int which) {
        is("finding()", x.finding(), which == 0 ? same.finding() : which);
        for (int f = 1; f <= 5; f++) {
            is("findings(" + f + ")", x.findings(f), same.findings(f) + (f == which ? 1 : 0));
        }
        List<Long> a = seen(x), b = seen(same);
        is("what is seen", a.size(), b.size());
        for (int k = 0; k < Math.min(a.size(), b.size()); k++) {
            is("what is seen " + k, a.get(k), b.get(k));
        }
    }

    /** All that can be seen of an object, its DEEDS undone one by one and kept DELTAS gone on from (it is spent then). */
    private static List<Long> seen(HemLine x) {
        List<Long> all = new ArrayList<>(List.of((long) x.asked(), x.upper(), x.lower(), x.digest()));
        for (int n = x.count(2) - 1; n >= 0; n--) {
            all.add((long) x.undo(n));
            all.add(x.digest());
        }
        for (int k = 0; k < 3; k++) {
            all.add((long) x.on(k));
            all.add(x.digest());
            int deeds = x.count(2);
            x.undo(deeds / 2);
            all.add(x.digest());
            x.undo(0);
            all.add(x.digest());
        }
        return all;
    }

    // ---- objects to begin with

    static Made bare(Call... steps) {
        return () -> stepped(new HemLine(), steps);
    }

    /** With a DELTA by these signs, which is kept at 0. */
    static Made by(String signs, Call... steps) {
        return () -> {
            HemLine x = new HemLine();
            write(x, 0, signs);
            is("delta(0) by " + signs, x.delta(0) > 0 ? 1 : 0, 1);
            x.keep(0);
            return stepped(x, steps);
        };
    }

    /**
     * ROWS 0 (3 places), 1 (none), 2 (40), 4 (2), others missing; TEXTS 0 (a DELTA), 1 (a FAULT), 2 (none), 3 missing;
     * DEEDS of each kind, DELTAS kept at 0, 1.
     */
    static Made rich(Call... steps) {
        return () -> stepped(by(SIX, fill(0, 7, -8, 9), fill(4, 9, 5), x -> x.row(1, 0), x -> x.row(2, 40),
            x -> write(x, 1, "d012 "), x -> x.text(2, 0), x -> x.flood(6), x -> x.move(0, 3), x -> x.keep(1),
            x -> x.dyke(1), x -> x.tuck(4), x -> x.flood(9), x -> x.mid(), x -> x.at(0, 0)).make(), steps);
    }

    /** With one WOMAN where six of TUCK 3 and PLACE 5, a flood, DEEDS were. */
    static Made fewer() {
        return by("d0000000w593w593w593w593w593w593", floods(9, 9), x -> x.move(1, 2),
            x -> write(x, 1, "d0000000b010"), x -> x.delta(1), x -> x.keep(0), floods(3));
    }

    private static HemLine stepped(HemLine x, Call... steps) {
        for (Call step : steps) {
            step.on(x);
        }
        return x;
    }

    static long write(HemLine x, int t, String signs) {
        x.text(t, signs.length());
        for (int i = 0; i < signs.length(); i++) {
            x.put(t, i, signs.charAt(i));
        }
        return 0;
    }

    static Call fill(int r, int... values) {
        return x -> {
            x.row(r, values.length);
            for (int i = 0; i < values.length; i++) {
                x.lay(r, i, values[i]);
            }
            return 0;
        };
    }

    static Call floods(int... heights) {
        return x -> {
            for (int f : heights) {
                x.flood(f);
            }
            return 0;
        };
    }

    /** So many DEEDS, by which WOMAN 0 moves to and fro between PLACES 0 and 1. */
    static Call moves(int many) {
        return x -> {
            x.woman(0, 1);
            int place = x.asked();
            for (int k = 0; k < many; k++) {
                place = place == 0 ? 1 : 0;
                x.move(0, place);
            }
            return 0;
        };
    }

    static void holds(HemLine x, int r, int... values) {
        for (int i = 0; i < values.length; i++) {
            is("at(" + r + ", " + i + ")", x.at(r, i), 1);
            is("asked() of place " + i, x.asked(), values[i]);
        }
        is("at(" + r + ", " + values.length + ")", x.at(r, values.length), FINDING);
    }

    static int asked(HemLine x, Call call) {
        call.on(x);
        return x.asked();
    }

    /** Bits of the numbers from one to another one. */
    static int bits(int from, int to) {
        int set = 0;
        for (int k = from; k <= to; k++) {
            set |= 1 << k;
        }
        return set;
    }

    /** The seed by which the first number of lots() is this one. */
    static int seedOf(long number) {
        BigInteger modulus = BigInteger.valueOf(2147483647);
        return BigInteger.valueOf(48271).modInverse(modulus).multiply(BigInteger.valueOf(number))
            .mod(modulus).intValueExact();
    }
}
