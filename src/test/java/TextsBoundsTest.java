/** Boundaries of promises 8 to 11: text, put, fault, delta. */
public final class TextsBoundsTest extends Bounds {
    private static final int[] NO_TEXTS = {-1, 4, LEAST, MOST};
    private static final String LAND = "d0123456";
    private static final String SIX_WOMEN = "w010w110w210w310w410w510";

    public static void main(String[] args) {
        text();
        textRefused();
        put();
        putRefused();
        faultOfBlanks();
        faultOfLand();
        faultOfWomen();
        faultOfSevenWomen();
        faultOfSize();
        faultRefused();
        delta();
        deltaOfFigures();
        deltaAnew();
        deltaRefused();
        end();
    }

    // ---- text, put

    private static void text() {
        String p = "8 text";
        answers(p, "TEXT 0 is the first", bare(), x -> x.text(0, 3), 3);
        answers(p, "TEXT 3 is the last", bare(), x -> x.text(3, 3), 3);
        answers(p, "0 blanks are the fewest", bare(), x -> x.text(2, 0), 0);
        answers(p, "1 blank", bare(), x -> x.text(2, 1), 1);
        answers(p, "59 blanks", bare(), x -> x.text(2, 59), 59);
        answers(p, "60 blanks are the most", bare(), x -> x.text(2, 60), 60);
        answers(p, "a TEXT of 0 bytes is there", bare(x -> x.text(2, 0)), x -> x.count(9), 1);
        answers(p, "the first byte is a blank", bare(x -> x.text(2, 60)), x -> x.put(2, 0, 1), 1032);
        answers(p, "the last byte is a blank", bare(x -> x.text(2, 60)), x -> x.put(2, 59, 1), 1032);
        answers(p, "the only byte is a blank", bare(x -> x.text(2, 1)), x -> x.put(2, 0, 1), 1032);
        answers(p, "anew its bytes are blanks again", bare(x -> x.text(2, 60), x -> x.put(2, 59, 1), x -> x.text(2, 60)),
            x -> x.put(2, 59, 1), 1032);
        answers(p, "shorter and longer again its bytes are blanks", bare(x -> x.text(2, 4), x -> x.put(2, 3, 1),
            x -> x.text(2, 1), x -> x.text(2, 4)), x -> x.put(2, 3, 1), 1032);
        answers(p, "the other TEXTS stay", bare(x -> x.text(1, 1), x -> x.put(1, 0, 7), x -> x.text(2, 60)),
            x -> x.put(1, 0, 1), 1007);
        answers(p, "ROWS of its number stay", bare(fill(2, 5), x -> x.text(2, 0)), x -> x.at(2, 0), 1);
        test(p, "asked() stays", () -> is("asked()", rich(x -> x.text(3, 60)).make().asked(), 7));
    }

    private static void textRefused() {
        String p = "8 text";
        bad(p, "TEXT", rich(), t -> x -> x.text(t, 3), NO_TEXTS);
        bad(p, "a number of blanks", rich(), n -> x -> x.text(0, n), 61, 62, MOST);
        finds(p, "-1 blanks are fewer than none", rich(), x -> x.text(0, -1), SIZE);
        finds(p, "LEAST blanks are fewer than none", rich(), x -> x.text(0, LEAST), SIZE);
        finds(p, "-1 blanks of a TEXT that is missing", rich(), x -> x.text(3, -1), SIZE);
        refused(p, "BAD of a TEXT (4) is ahead of SIZE", rich(), x -> x.text(4, -1), BAD);
        refused(p, "BAD of a TEXT (-1) is ahead of SIZE", rich(), x -> x.text(-1, -1), BAD);
        refused(p, "BAD of both", rich(), x -> x.text(4, 61), BAD);
    }

    private static void put() {
        String p = "9 put";
        answers(p, "TEXT 0 is the first", bare(x -> x.text(0, 1), x -> x.put(0, 0, 5)), x -> x.put(0, 0, 6), 1005);
        answers(p, "TEXT 3 is the last", bare(x -> x.text(3, 1), x -> x.put(3, 0, 5)), x -> x.put(3, 0, 6), 1005);
        answers(p, "byte 0 is the first", bare(x -> x.text(1, 3), x -> x.put(1, 0, 5)), x -> x.put(1, 0, 6), 1005);
        answers(p, "the last byte", bare(x -> x.text(1, 3), x -> x.put(1, 2, 5)), x -> x.put(1, 2, 6), 1005);
        answers(p, "byte 59 of 60", bare(x -> x.text(1, 60), x -> x.put(1, 59, 5)), x -> x.put(1, 59, 6), 1005);
        int[] values = {0, 1, -1, 127, 128, -128, -129, 255, 256, -255, -256, -257, 383, 384, 32767, 32768, 65535, LEAST,
            LEAST + 127, LEAST + 128, MOST, MOST - 127, MOST - 128};
        int[] bytes = {0, 1, -1, 127, -128, -128, 127, -1, 0, 1, 0, -1, 127, -128, -1, 0, -1, 0,
            127, -128, -1, -128, 127};
        for (int k = 0; k < values.length; k++) {
            int v = values[k];
            answers(p, v + " is cut to " + bytes[k], bare(x -> x.text(1, 2), x -> x.put(1, 1, v)), x -> x.put(1, 1, 0),
                1000 + bytes[k]);
        }
        test(p, "the bytes beside it stay", () -> {
            HemLine x = bare(y -> y.text(1, 3), y -> y.put(1, 1, 300)).make();
            is("ahead", x.put(1, 0, 0), 1032);
            is("behind", x.put(1, 2, 0), 1032);
        });
        answers(p, "the same byte of other TEXTS stays", bare(x -> x.text(1, 3), x -> x.text(2, 3), x -> x.put(1, 1, 9)),
            x -> x.put(2, 1, 0), 1032);
        test(p, "asked() stays", () -> is("asked()", rich(x -> x.put(0, 0, 5)).make().asked(), 7));
        test(p, "a DELTA stays as its TEXT was", () -> {
            HemLine x = rich(y -> y.put(0, 1, '9'), y -> y.put(0, 8, 'x')).make();
            is("count(0)", x.count(0), 6);
            is("count(4)", x.count(4), 16);
        });
    }

    private static void putRefused() {
        String p = "9 put";
        bad(p, "TEXT", rich(), t -> x -> x.put(t, 0, 1), NO_TEXTS);
        for (int i : new int[] {-1, 5, 6, LEAST, MOST}) {
            finds(p, "byte " + i + " of 5 is beyond", rich(), x -> x.put(1, i, 1), BEYOND);
        }
        finds(p, "byte 0 of a TEXT of 0 bytes is beyond", rich(), x -> x.put(2, 0, 1), BEYOND);
        finds(p, "byte 60 of 60 is beyond", rich(x -> x.text(1, 60)), x -> x.put(1, 60, 1), BEYOND);
        finds(p, "byte 1 of what is shorter now is beyond", rich(x -> x.text(1, 1)), x -> x.put(1, 1, 1), BEYOND);
        finds(p, "a TEXT that is missing", rich(), x -> x.put(3, 0, 1), NOTHING);
        refused(p, "BAD (4) is ahead of BEYOND", rich(), x -> x.put(4, -1, 1), BAD);
        refused(p, "BAD (-1) is ahead of BEYOND", rich(), x -> x.put(-1, -1, 1), BAD);
        finds(p, "NOTHING is ahead of BEYOND", rich(), x -> x.put(3, -1, 1), NOTHING);
    }

    // ---- fault

    /** The FAULT of a TEXT, and what delta() makes of it: so many WOMEN, or STATE. */
    private static void faultIs(String boundary, String signs, int fault, int women) {
        test("10 fault", boundary, () -> {
            HemLine x = rich(y -> write(y, 3, signs)).make();
            long digest = x.digest();
            is("fault(3) of '" + signs + "'", x.fault(3), fault);
            is("digest() behind fault()", x.digest(), digest);
            is("asked() behind fault()", x.asked(), 7);
            is("delta(3) of '" + signs + "'", x.delta(3), women);
        });
    }

    private static void well(String boundary, String signs, int women) {
        faultIs(boundary, signs, NONE, women);
    }

    private static void faulty(String boundary, String signs, int fault) {
        faultIs(boundary, signs, fault, STATE);
    }

    private static void faultOfBlanks() {
        well("no blanks at all", LAND + "w053", 1);
        well("a blank ahead", " " + LAND + "w053", 1);
        well("a blank behind the land", LAND + " w053", 1);
        well("a blank between WOMEN", LAND + "w053 b142", 2);
        well("no blank between WOMEN", LAND + "w053b142", 2);
        well("a blank behind", LAND + "w053 ", 1);
        well("as many blanks as there is room for ahead", " ".repeat(48) + LAND + "w053", 1);
        well("as many blanks as there is room for between", LAND + " ".repeat(48) + "w053", 1);
        well("as many blanks as there is room for between WOMEN", LAND + "w053" + " ".repeat(44) + "b142", 2);
        well("as many blanks as there is room for behind", LAND + "w053" + " ".repeat(48), 1);
        well("blanks everywhere", "   " + LAND + "   w053   b142   ", 2);
        for (int place = 1; place < 8; place++) {
            faulty("a blank within the land at " + place, LAND.substring(0, place) + " " + LAND.substring(place) + "w053",
                place);
        }
        for (int place = 1; place < 4; place++) {
            faulty("a blank within a WOMAN at " + place, LAND + "w053".substring(0, place) + " "
                + "w053".substring(place), 8 + place);
        }
        for (int sign : new int[] {0, 9, 10, 13, 31, 33, 95, 160}) {
            faulty("sign " + sign + " ahead is no blank", (char) sign + LAND + "w053", 0);
            faulty("sign " + sign + " between is no blank", LAND + (char) sign + "w053", 8);
            faulty("sign " + sign + " behind is no blank", LAND + "w053" + (char) sign, 12);
        }
        well("a blank cut to a byte", (char) (32 + 256) + LAND + "w053", 1);
    }

    private static void faultOfLand() {
        for (int sign : new int[] {'c', 'e', 'D', 'w', '0', '9', 'd' + 128, 0, 255}) {
            faulty("sign " + sign + " is no d", (char) sign + "0123456w053", 0);
            faulty("sign " + sign + " behind blanks is no d", "  " + (char) sign + "0123456w053", 2);
        }
        well("a d cut to a byte", (char) ('d' + 256) + "0123456w053", 1);
        for (int place = 1; place < 8; place++) {
            String ahead = LAND.substring(0, place), behind = LAND.substring(place + 1) + "w053";
            String what = place == 7 ? "EARTH " : "GROUND of PLACE " + (place - 1) + " ";
            well(what + "0 is the first figure", ahead + '0' + behind, 1);
            well(what + "9 is the last figure", ahead + '9' + behind, 1);
            faulty(what + "/ is below the first figure", ahead + '/' + behind, place);
            faulty(what + ": is above the last figure", ahead + ':' + behind, place);
            faulty(what + "is a letter", ahead + 'w' + behind, place);
            faulty(what + "is below 0", ahead + (char) ('0' + 128) + behind, place);
        }
        faulty("an eighth figure", LAND + "7w053", 8);
        faulty("a land of a figure too few", LAND.substring(0, 7) + "w053", 7);
        faulty("the land once more", LAND + LAND + "w053", 8);
        faulty("the land behind the WOMEN", LAND + "w053" + LAND, 12);
        faulty("WOMEN ahead of the land", "w053" + LAND, 0);
    }

    private static void faultOfWomen() {
        for (char letter : "wblvga".toCharArray()) {
            well("letter " + letter, LAND + letter + "053", 1);
            faulty("letter " + letter + " as a great one", LAND + (char) (letter - 32) + "053", 8);
        }
        for (char letter : "cdefhkmuxyz".toCharArray()) {
            faulty("letter " + letter + " is none", LAND + letter + "053", 8);
        }
        for (int sign : new int[] {'/', '0', '5', ':', '`', '{', 'a' + 128, 'w' + 128}) {
            faulty("sign " + sign + " is no letter of a WOMAN", LAND + (char) sign + "053", 8);
            faulty("sign " + sign + " is no letter of a second WOMAN", LAND + "w053" + (char) sign + "053", 12);
        }
        well("PLACE 0 is the first", LAND + "w053", 1);
        well("PLACE 5 is the last", LAND + "w553", 1);
        faulty("PLACE / is below the first", LAND + "w/53", 9);
        faulty("PLACE 6 is above the last", LAND + "w653", 9);
        faulty("PLACE 9", LAND + "w953", 9);
        faulty("PLACE w", LAND + "ww53", 9);
        well("TALL 1 is the first", LAND + "w513", 1);
        well("TALL 9 is the last", LAND + "w593", 1);
        faulty("TALL 0 is below the first", LAND + "w503", 10);
        faulty("TALL / is below the first", LAND + "w5/3", 10);
        faulty("TALL : is above the last", LAND + "w5:3", 10);
        well("TUCK 0 is the first", LAND + "w590", 1);
        well("TUCK 3 is the last", LAND + "w593b013", 2);
        faulty("TUCK / is below the first", LAND + "w59/", 11);
        faulty("TUCK 4 is above the last", LAND + "w594", 11);
        faulty("TUCK 9", LAND + "w599", 11);
        faulty("a fourth figure", LAND + "w5931", 12);
        faulty("a WOMAN of a figure too few", LAND + "w59b010", 11);
        faulty("the first of two FAULTS", LAND + "w694", 9);
        faulty("a FAULT of the sixth WOMAN", LAND + "w010w010w010w010w010w014", 31);
    }

    private static void faultOfSevenWomen() {
        well("1 WOMAN", LAND + "w010", 1);
        well("5 WOMEN", LAND + SIX_WOMEN.substring(4), 5);
        well("6 WOMEN are the most", LAND + SIX_WOMEN, 6);
        well("6 WOMEN, blanks behind", LAND + SIX_WOMEN + "   ", 6);
        well("6 WOMEN in 60 bytes", "    " + LAND + "  " + SIX_WOMEN.replace("w", "    w").substring(2), 6);
        faulty("a seventh WOMAN: its place", LAND + SIX_WOMEN + "b010", 32);
        faulty("a seventh WOMAN behind blanks: its place", LAND + SIX_WOMEN + "  b010", 34);
        faulty("a seventh WOMAN of a letter alone: its place", LAND + SIX_WOMEN + "b", 32);
        faulty("a seventh WOMAN that is none: its place", LAND + SIX_WOMEN + "x", 32);
        faulty("a figure behind six WOMEN", LAND + SIX_WOMEN + "0", 32);
        faulty("a seventh WOMAN as the last byte of 60", LAND + SIX_WOMEN + " ".repeat(27) + "b", 59);
    }

    private static void faultOfSize() {
        faulty("a TEXT of 0 bytes: its size", "", 0);
        faulty("1 blank alone: its size", " ", 1);
        faulty("2 blanks alone: their size", "  ", 2);
        faulty("60 blanks alone: their size", " ".repeat(60), 60);
        for (int size = 1; size < 8; size++) {
            faulty("the land ends behind " + size + ": its size", LAND.substring(0, size), size);
        }
        faulty("the land ends behind blanks: its size", "   d012", 7);
        faulty("no WOMAN: its size", LAND, 8);
        faulty("no WOMAN, a blank behind: its size", LAND + " ", 9);
        faulty("no WOMAN, blanks up to 60: its size", LAND + " ".repeat(52), 60);
        for (int size = 1; size < 4; size++) {
            faulty("a WOMAN ends behind " + size + ": its size", LAND + "w053".substring(0, size), 8 + size);
            faulty("the sixth WOMAN ends behind " + size + ": its size", LAND + SIX_WOMEN.substring(0, 20 + size),
                28 + size);
        }
        faulty("it ends at 60 within a WOMAN", " ".repeat(49) + LAND + "w05", 60);
        well("it ends at 60 behind a WOMAN", " ".repeat(48) + LAND + "w053", 1);
        test("10 fault", "what a longer TEXT held is no part of it", () -> {
            HemLine x = bare(y -> write(y, 0, LAND + "w053"), y -> y.text(0, 0)).make();
            is("fault(0)", x.fault(0), 0);
        });
    }

    private static void faultRefused() {
        String p = "10 fault";
        bad(p, "TEXT", rich(), t -> x -> x.fault(t), NO_TEXTS);
        finds(p, "a TEXT that is missing", rich(), x -> x.fault(3), NOTHING);
        none(p, "NONE changes nothing", rich(), x -> x.fault(0));
        answers(p, "TEXT 0 is the first", bare(x -> x.text(0, 1)), x -> x.fault(0), 1);
        answers(p, "TEXT 3 is the last", bare(x -> x.text(3, 1)), x -> x.fault(3), 1);
    }

    // ---- delta

    private static void delta() {
        String p = "11 delta";
        answers(p, "TEXT 0 is the first", bare(x -> write(x, 0, LAND + "w053")), x -> x.delta(0), 1);
        answers(p, "TEXT 3 is the last", bare(x -> write(x, 3, LAND + "w053")), x -> x.delta(3), 1);
        for (int n = 1; n <= 6; n++) {
            String signs = LAND + SIX_WOMEN.substring(0, 4 * n);
            int women = n;
            answers(p, "WOMEN: " + n, bare(x -> write(x, 1, signs)), x -> x.delta(1), n);
            answers(p, "WOMEN told by count(0): " + n, bare(x -> write(x, 1, signs), x -> x.delta(1)), x -> x.count(0),
                women);
        }
        test(p, "WOMEN 0, 1, .. as they come", () -> {
            HemLine x = by("d0000000 a593 w010 g421 b142 v370 l232").make();
            int[][] women = {{5, 5, 9, 3}, {0, 0, 1, 0}, {4, 4, 2, 1}, {1, 1, 4, 2}, {3, 3, 7, 0}, {2, 2, 3, 2}};
            for (int i = 0; i < 6; i++) {
                for (int what = 0; what < 4; what++) {
                    int w = what, who = i;
                    is("woman(" + i + ", " + what + ")", asked(x, y -> y.woman(who, w)), women[i][what]);
                }
            }
        });
        test(p, "its TEXT, asked(), upper(), lower() stay", () -> {
            HemLine x = rich().make();
            long upper = x.upper(), lower = x.lower();
            x.delta(0);
            is("asked()", x.asked(), 7);
            is("upper()", x.upper(), upper);
            is("lower()", x.lower(), lower);
            is("fault(0)", x.fault(0), NONE);
            is("count(8)", x.count(8), 4);
            is("count(9)", x.count(9), 3);
            is("count(10)", x.count(10), 0);
        });
    }

    private static void deltaOfFigures() {
        String p = "11 delta";
        for (int k = 0; k < 6; k++) {
            for (int ground : new int[] {0, 9}) {
                int place = k;
                StringBuilder land = new StringBuilder("d5555555");
                land.setCharAt(1 + k, (char) ('0' + ground));
                answers(p, "GROUND " + ground + " of PLACE " + k, by(land + "w" + k + "10"), x -> x.dry(), ground);
                answers(p, "GROUND of all, PLACE " + k + " is " + ground, by(land + "w010"), x -> x.count(4),
                    25 + ground);
            }
        }
        for (int earth : new int[] {0, 1, 8, 9}) {
            answers(p, "EARTH " + earth, by("d555555" + earth + "w010"), x -> x.count(3), earth);
        }
        for (int k = 0; k < 6; k++) {
            int kind = k;
            tells(p, "KIND " + k, by(LAND + "wblvga".charAt(k) + "053"), x -> x.woman(0, 0), 1, kind);
            tells(p, "PLACE " + k, by(LAND + "w" + k + "53"), x -> x.woman(0, 1), 1, kind);
        }
        for (int k = 1; k < 10; k++) {
            tells(p, "TALL " + k, by(LAND + "w0" + k + "3"), x -> x.woman(0, 2), 1, k);
        }
        for (int k = 0; k < 4; k++) {
            tells(p, "TUCK " + k, by(LAND + "w05" + k), x -> x.woman(0, 3), 1, k);
        }
    }

    private static void deltaAnew() {
        String p = "11 delta";
        Made anew = rich(x -> x.keep(2), x -> write(x, 3, "d1111112b593"), x -> x.delta(3));
        int[] counts = {1, 0, 0, 2, 6, 3, 0, 1, 4, 4, 0};
        for (int k = 0; k < counts.length; k++) {
            int what = k;
            answers(p, "anew count " + what, anew, x -> x.count(what), counts[k]);
        }
        for (int k = 0; k < 3; k++) {
            int place = k;
            finds(p, "anew no DELTA is kept at " + k, anew, x -> x.on(place), NOTHING);
        }
        refused(p, "anew no DEED can be undone", anew, x -> x.undo(1), BAD);
        refused(p, "anew no YEAR is past", anew, x -> x.hem(0, 0), BAD);
        refused(p, "anew there is no second WOMAN", anew, x -> x.woman(1, 0), BAD);
        answers(p, "anew YEAR 0 is due", rich(x -> write(x, 3, "d1111112a593"), x -> x.delta(3)), x -> x.mark(0, 5), 0);
        answers(p, "by the same TEXT it is anew, too", rich(x -> x.delta(0)), x -> x.count(2), 0);
        test(p, "it is as in a new object", () -> {
            HemLine x = rich(y -> y.delta(0), y -> y.tear(0), y -> y.tear(1), y -> y.tear(2), y -> y.tear(4),
                y -> y.text(1, 0), y -> y.text(2, 0)).make();
            HemLine other = bare(y -> write(y, 0, SIX), y -> y.text(1, 0), y -> y.text(2, 0), y -> y.delta(0)).make();
            is("digest()", x.digest(), other.digest());
        });
    }

    private static void deltaRefused() {
        String p = "11 delta";
        bad(p, "TEXT", rich(), t -> x -> x.delta(t), NO_TEXTS);
        finds(p, "a TEXT that is missing", rich(), x -> x.delta(3), NOTHING);
        refused(p, "a FAULT", rich(), x -> x.delta(1), STATE);
        refused(p, "a FAULT of a TEXT of 0 bytes", rich(), x -> x.delta(2), STATE);
        refused(p, "a FAULT of the last WOMAN alone", rich(x -> write(x, 1, "d9999999b593b594")), x -> x.delta(1),
            STATE);
        refused(p, "a FAULT where there are no WOMEN yet", bare(x -> write(x, 1, "d9999999b593b594")),
            x -> x.delta(1), STATE);
        finds(p, "NOTHING where there are no WOMEN yet", bare(), x -> x.delta(3), NOTHING);
    }
}
