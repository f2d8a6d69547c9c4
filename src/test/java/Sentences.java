import java.util.Set;
import java.util.TreeSet;

/**
 * What the tests of sentences share. The document is gone through from its first line on: what says() quotes must be
 * what comes next in it, and in the end nothing may be left. Each sentence wants a test on a new object, one after
 * other calls that change what it is about, and one of a call that is refused.
 */
abstract class Sentences extends Bounds {
    private static final String NEW = "on a new object", AFTER = "after others", REFUSED = "refused";
    private static final Set<String> wanted = new TreeSet<>();
    private static String rest = Doc.sentences();
    private static String name = "the document";
    private static int number;

    // ---- the document

    static void says(String sentence) {
        comes(sentence);
        wanted.addAll(Set.of(NEW, AFTER, REFUSED));
    }

    /** No call that this sentence is about can be refused. */
    static void unrefused() {
        wanted.remove(REFUSED);
    }

    /** What says nothing of what a call answers or changes. */
    static void passes(String text) {
        comes(text);
    }

    static void endOfDocument() {
        comes("");
        test(name, "the document ends here", () -> is("what is left: " + rest, rest.length(), 0));
        end();
    }

    private static void comes(String text) {
        test(name, "has its tests", () -> is("without a test " + wanted, wanted.size(), 0));
        wanted.clear();
        number++;
        name = "sentence " + number + " (" + (text.length() > 60 ? text.substring(0, 60) + " .." : text) + ")";
        test(name, "is what comes next in the document", () -> {
            int from = rest.indexOf(text);
            is("ahead of it: " + rest.substring(0, Math.max(0, from)), from, 0);
            rest = rest.substring(Math.max(0, from) + (from < 0 ? 0 : text.length())).strip();
        });
    }

    private static String counted(String kind, String what) {
        wanted.remove(kind);
        return kind + ": " + what;
    }

    // ---- tests of a sentence

    static void onNew(String what, Call call, long answer) {
        answers(name, counted(NEW, what), bare(), call, answer);
    }

    static void onNew(String what, Runnable body) {
        test(name, counted(NEW, what), body);
    }

    static void onNewRefused(String what, Call call, int answer) {
        refused(name, counted(NEW, what), bare(), call, answer);
    }

    static void onNewFinds(String what, Call call, int which) {
        finds(name, counted(NEW, what), bare(), call, which);
    }

    static void after(String what, Made made, Call call, long answer) {
        answers(name, counted(AFTER, what), made, call, answer);
    }

    static void after(String what, Runnable body) {
        test(name, counted(AFTER, what), body);
    }

    static void afterTells(String what, Made made, Call call, long answer, int told) {
        tells(name, counted(AFTER, what), made, call, answer, told);
    }

    /** Chances or a mean: the answer is 1. */
    static void afterParts(String what, Made made, Call call, long upper, long lower) {
        after(what, () -> {
            HemLine x = made.make();
            is("answer", call.on(x), 1);
            is("upper()", x.upper(), upper);
            is("lower()", x.lower(), lower);
        });
    }

    static void afterNone(String what, Made made, Call call) {
        none(name, counted(AFTER, what), made, call);
    }

    static void refused(String what, Made made, Call call, int answer) {
        refused(name, counted(REFUSED, what), made, call, answer);
    }

    static void refused(String what, Runnable body) {
        test(name, counted(REFUSED, what), body);
    }

    static void finds(String what, Made made, Call call, int which) {
        finds(name, counted(REFUSED, what), made, call, which);
    }

    static void refusedEach(String what, Made made, Numbered call, int... numbers) {
        bad(name, counted(REFUSED, what), made, call, numbers);
    }

    // ---- objects to begin with

    /** With a DELTA by these signs in TEXT 0, nothing kept. */
    static Made land(String signs, Call... steps) {
        return bare(x -> {
            write(x, 0, signs);
            is("delta(0) by " + signs, x.delta(0) > 0 ? 1 : 0, 1);
            for (Call step : steps) {
                step.on(x);
            }
            return 0;
        });
    }

    /** A DELTA begun by other signs, in TEXT 3. */
    static Call begun(String signs) {
        return x -> {
            write(x, 3, signs);
            is("delta(3) by " + signs, x.delta(3) > 0 ? 1 : 0, 1);
            return 0;
        };
    }

    static Call each(Call... steps) {
        return x -> {
            for (Call step : steps) {
                step.on(x);
            }
            return 0;
        };
    }
}
