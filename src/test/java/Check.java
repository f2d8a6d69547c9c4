/** What the tests share: an answer that is not the one due is printed and counted. */
final class Check {
    private int calls;
    private int wrong;

    void due(String what, long got, long want) {
        calls++;
        if (got != want) {
            wrong++;
            if (wrong <= 40) {
                System.out.println(what + " answered " + got + ", due is " + want);
            }
        }
    }

    /** A call that is refused by a finding: the answer, which it is, how often it was; nothing else changes. */
    void finding(HemLine x, String what, Call call, int which) {
        int before = x.findings(which);
        refused(x, what, call, HemLine.FINDING);
        due(what + " finding()", x.finding(), which);
        due(what + " findings(" + which + ")", x.findings(which), before + 1);
    }

    /** A call that is refused (or answers NONE): with few calls, as an object has but 512; Bounds looks at all. */
    void refused(HemLine x, String what, Call call, int answer) {
        long digest = x.digest();
        int asked = x.asked(), finding = x.finding();
        due(what, call.on(x), answer);
        due(what + " leaves digest()", x.digest(), digest);
        due(what + " leaves asked()", x.asked(), asked);
        if (answer != HemLine.FINDING) {
            due(what + " leaves finding()", x.finding(), finding);
        }
    }

    void end() {
        System.out.println(calls + " answers, " + wrong + " not as due");
        if (wrong != 0) {
            throw new AssertionError(wrong + " not as due");
        }
    }

    interface Call {
        long on(HemLine x);
    }

    static void write(HemLine x, int t, String signs) {
        x.text(t, signs.length());
        for (int i = 0; i < signs.length(); i++) {
            x.put(t, i, signs.charAt(i));
        }
    }

    static void fill(HemLine x, int r, int... values) {
        x.row(r, values.length);
        for (int i = 0; i < values.length; i++) {
            x.lay(r, i, values[i]);
        }
    }

    /** A new object with a DELTA by these signs. */
    static HemLine by(String signs) {
        HemLine x = new HemLine();
        write(x, 0, signs);
        if (x.delta(0) <= 0) {
            throw new IllegalStateException("no DELTA: " + signs);
        }
        return x;
    }

    /** DEEDS till there are so many, and WOMAN 0 is at the PLACE where she was or at another one. */
    static void moveTill(HemLine x, int deeds) {
        while (x.count(2) < deeds) {
            x.woman(0, 1);
            x.move(0, x.asked() == 0 ? 1 : 0);
        }
    }
}
