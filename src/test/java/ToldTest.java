/** Promises 38 to 44: asked, upper, lower, count, finding, findings, digest. */
public final class ToldTest {
    private static final Check check = new Check();
    private static final int LEAST = Integer.MIN_VALUE, MOST = Integer.MAX_VALUE;

    public static void main(String[] args) {
        asked();
        askedStays();
        upperAndLower();
        count();
        findings();
        digestOfNothing();
        digest();
        check.end();
    }

    private static void tells(HemLine x, String what, Check.Call call, int told) {
        Check.fill(x, 0, 987654);
        x.at(0, 0);
        call.on(x);
        check.due("asked() behind " + what, x.asked(), told);
    }

    private static void asked() {
        HemLine x = Check.by("d0000000 w090 b080");
        x.flood(5);
        x.row(1, 0);
        tells(x, "lay", y -> y.lay(0, 0, 3), 987654);
        tells(x, "at", y -> y.at(0, 0), 987654);
        tells(x, "mean", y -> y.mean(0), 987654);
        tells(x, "woman", y -> y.woman(1, 2), 8);
        tells(x, "know", y -> y.know(1, 0), 1);
        tells(x, "look", y -> y.look(0, 0), 12);
        tells(x, "looks", y -> y.looks(0), 1);
        tells(x, "line", y -> y.line(0), 0);
        tells(x, "test", y -> y.test(0, 1), 4);
        tells(x, "whose", y -> y.whose(1), 0);
    }

    /** All other calls, and these refused or NONE, leave it. */
    private static void askedStays() {
        HemLine x = Check.by("d0000009 w090 b080");
        x.flood(5);
        Check.fill(x, 1, 20, 0);
        Check.Call[] calls = {y -> y.row(5, 2), y -> y.tear(5), y -> y.copy(0, 0, 0, 0, 1), y -> y.text(3, 2),
            y -> y.put(3, 0, 5), y -> y.fault(0), y -> y.mark(1, 1), y -> y.hem(0, 0), y -> y.would(0, 7),
            y -> y.flood(6), y -> y.move(0, 1), y -> y.dyke(0), y -> y.tuck(0), y -> y.undo(3), y -> y.keep(0),
            y -> y.on(0), y -> y.high(0), y -> y.kinds(0, 1), y -> y.raise(1, 5, 2), y -> y.dry(),
            y -> y.least(0, 5, 0), y -> y.duel(2, 3), y -> y.odds(1), y -> y.mid(), y -> y.lots(2, 3), y -> y.asked(),
            y -> y.upper(), y -> y.lower(), y -> y.count(1), y -> y.finding(), y -> y.findings(1), y -> y.digest(),
            y -> y.delta(0)};
        Check.fill(x, 0, 4242);
        for (int k = 0; k < calls.length; k++) {
            x.at(0, 0);
            check.due("call " + k + " is well", calls[k].on(x) == HemLine.BAD ? 1 : 0, 0);
            check.due("asked() behind call " + k, x.asked(), 4242);
        }
        x.flood(5);
        Check.Call[] refused = {y -> y.lay(0, 1, 1), y -> y.at(0, 1), y -> y.mean(4), y -> y.woman(0, 6),
            y -> y.know(0, 1), y -> y.look(3, 0), y -> y.look(4, 0), y -> y.looks(1), y -> y.line(1),
            y -> y.test(0, 1), y -> y.test(0, 0), y -> y.whose(4)};
        for (int k = 0; k < refused.length; k++) {
            x.at(0, 0);
            check.due("refused call " + k, refused[k].on(x) < 0 ? 1 : 0, 1);
            check.due("asked() behind refused call " + k, x.asked(), 4242);
        }
    }

    private static void upperAndLower() {
        HemLine x = Check.by("d0000000 w090 b080");
        x.odds(0);
        check.due("upper() behind a refused one", x.upper(), 0);
        check.due("lower() behind a refused one", x.lower(), 1);
        x.flood(5);
        x.flood(0);
        x.odds(1);
        check.due("upper()", x.upper(), 1);
        check.due("lower()", x.lower(), 2);
        x.odds(7);
        x.undo(0);
        x.mid();
        check.due("upper() stays", x.upper(), 1);
        check.due("lower() stays", x.lower(), 2);
        x.flood(3);
        x.mid();
        check.due("upper() of mid()", x.upper(), 6);
        check.due("lower() of mid()", x.lower(), 1);
    }

    private static void counts(HemLine x, int... want) {
        for (int what = 0; what < want.length; what++) {
            check.due("count(" + what + ")", x.count(what), want[what]);
        }
    }

    private static void count() {
        HemLine x = Check.by("d1234567 w011 b122 l233 v310 g412 a510");
        counts(x, 6, 0, 0, 7, 21, 8, 0, 2, 0, 1, 0);
        x.flood(9);
        x.flood(0);
        counts(x, 6, 2, 2, 7, 21, 8, 0, 2, 0, 1, 0);
        x.flood(13);
        x.dyke(2);
        x.tuck(5);
        x.move(4, 0);
        x.keep(1);
        x.row(0, 0);
        x.row(5, 3);
        x.row(3, 3);
        x.text(3, 0);
        counts(x, 6, 3, 6, 6, 22, 9, 13, 2, 3, 2, 1);
        x.keep(0);
        x.keep(2);
        x.keep(2);
        x.tear(5);
        x.undo(1);
        counts(x, 6, 1, 1, 7, 21, 8, 9, 2, 2, 2, 3);
        Check.write(x, 1, "d0000000 g013");
        x.delta(1);
        counts(x, 1, 0, 0, 0, 0, 3, 0, 1, 2, 3, 0);
        for (int what : new int[] {-1, 11, LEAST, MOST}) {
            check.refused(x, "count(" + what + ")", y -> y.count(what), HemLine.BAD);
        }
    }

    private static void findings() {
        HemLine x = new HemLine();
        x.tear(0);
        check.due("finding()", x.finding(), 1);
        x.row(0, 0);
        x.at(0, 0);
        check.due("finding()", x.finding(), 2);
        x.mean(0);
        check.due("finding()", x.finding(), 4);
        x.row(1, -1);
        x.text(1, -1);
        check.due("finding()", x.finding(), 5);
        Check.write(x, 0, "d0000000w010");
        x.delta(0);
        x.mark(0, 3);
        check.due("finding()", x.finding(), 3);
        x.mark(0, 9);
        x.dry();
        check.due("finding() stays", x.finding(), 3);
        int[] want = {1, 1, 1, 1, 2};
        for (int f = 1; f <= 5; f++) {
            check.due("findings(" + f + ")", x.findings(f), want[f - 1]);
        }
        for (int f : new int[] {0, -1, 6, LEAST, MOST}) {
            check.refused(x, "findings(" + f + ")", y -> y.findings(f), HemLine.BAD);
        }
    }

    private static long digestBy(long... values) {
        long h = 17;
        for (long v : values) {
            h = 31 * h + v;
        }
        return h;
    }

    private static void digestOfNothing() {
        check.due("digest() of nothing", new HemLine().digest(), digestBy(
            0, 0, 0, 0, 0, 0, 0, 0, 0, 0, 0,
            0, 0, 0, 0, 0, 0,
            -1, -1, -1,
            -1, -1, -1, -1, -1, -1,
            -1, -1, -1, -1));
    }

    private static void digest() {
        HemLine x = Check.by("d1003007b121a392");
        x.flood(6);
        x.move(1, 0);
        x.keep(1);
        x.flood(1);
        x.text(0, 0);
        x.text(2, 2);
        x.put(2, 1, -7);
        Check.fill(x, 3, LEAST, -1);
        x.row(5, 0);
        x.woman(0, 2);
        check.due("digest()", x.digest(), digestBy(
            2, 2, 3, 7, 4, 3, 1, 1, 2, 2, 1,
            1, 0, 0, 3, 0, 0,
            1, 1, 2, 1, 2, 2, 2, 2,
            5, 0, 9, 2, 2, 3, 3, 0,
            -1, 2, -1,
            -1, -1, -1, 2, LEAST, -1, -1, 0,
            0, -1, 2, 32, -7, -1));
        check.due("asked() stays", x.asked(), 2);
        check.due("digest() again", x.digest(), x.digest());
    }
}
