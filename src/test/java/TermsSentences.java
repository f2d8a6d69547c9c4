/** The document from its first line to the last one of "Terms". */
final class TermsSentences extends Sentences {
    private static final String ONE = "d0000000w090";
    private static final String ALL_KINDS = "d0000000w090b090l090v090g090a090";

    static void all() {
        whatItIs();
        answers();
        refusedInRich();
        refusedOnNew();
        refusedInFull();
        findings();
        chancesAndSets();
        rowsAndTexts();
        blanks();
        land();
        women();
        fault();
        kinds();
        wet();
        hem();
        hemOfLiarWidow();
        hemOfGirlAunt();
        years();
        deeds();
        deedsAtMost();
        fits();
        knows();
        interfaces();
        whoInterface();
        chancesInterface();
    }

    private static void whatItIs() {
        passes("Hems tell the flood: in this delta it's no good marking a post, so it's kept on skirts, each woman's is "
            + "let down or taken up to the height that it came to her, that year, and put by, and they stand in a line, "
            + "on the dyke, in all they have, and one sees, brides are wet to the knee by custom, tall girls confuse the "
            + "record, a lie's a tuck; women of kinds (brides, liars, widows, girls, aunts) in places with their ground, "
            + "tall, with tucks, years with their floods, in a small language; floods, moves, dykes, tucks, undone; what "
            + "each hem says, how high it was by all hems of a year, surely by which, the next skirt to look at, the "
            + "fewest looks by which all is known that hems tell; of which kind one is, whose a skirt in a tree is; where "
            + "to raise dykes with what earth there is so that fewest are wet; the highest flood by which nobody is wet "
            + "so far; by turns of two banks; chances by all floods that there were, means; centuries by lots; deltas "
            + "kept, gone on from.");
        says("An object is used for at most 512 calls after it has been made; what later calls answer is free.");
        onNew("call 512", () -> {
            HemLine x = new HemLine();
            counts(x, 511, 0);
            is("digest()", x.digest(), new HemLine().digest());
        });
        after("call 512 is a flood; 14 calls were needed for the DELTA", () -> {
            HemLine x = land(ONE).make();
            counts(x, 497, 1);
            is("flood(3)", x.flood(3), 1);
        });
        after("call 512 is put()", () -> {
            HemLine x = land(ONE).make();
            counts(x, 497, 1);
            is("put(0, 0, 0)", x.put(0, 0, 0), 1100);
        });
        refused("call 512 by BAD", () -> {
            HemLine x = new HemLine();
            counts(x, 511, 0);
            is("row(6, 0)", x.row(6, 0), BAD);
        });
        refused("call 512 by a FINDING", () -> {
            HemLine x = new HemLine();
            counts(x, 511, 0);
            is("row(0, -1)", x.row(0, -1), FINDING);
        });
    }

    private static void counts(HemLine x, int calls, int women) {
        for (int k = 0; k < calls; k++) {
            is("count(0)", x.count(0), women);
        }
    }

    // ---- ANSWERS

    private static void answers() {
        says("======== ANSWERS. Refused is, the first of these that fits, in this order: BAD -1 (a number that is none, or "
            + "not as told), FULL -2, STATE -4 (not now), SPENT -6 (more than told), FINDING -3 (finding() tells which), "
            + "unless a call says so otherwise.");
        onNew("BAD is -1", x -> x.flood(21), -1);
        onNew("BAD is ahead of STATE: a HEIGHT", x -> x.raise(0, 21, 0), -1);
        onNew("STATE is -4", x -> x.flood(20), -4);
        onNew("BAD is ahead of STATE: a PLACE", x -> x.dyke(6), -1);
        onNew("BAD is ahead of STATE: a place to keep in", x -> x.keep(3), -1);
        onNew("BAD is ahead of FINDING: a ROW", x -> x.row(6, -1), -1);
        onNew("BAD is ahead of FINDING: a size", x -> x.row(0, 41), -1);
        onNew("FINDING is -3", x -> x.row(0, -1), -3);
        onNew("STATE is ahead of FINDING: whose()", x -> x.whose(0), -4);
        after("FULL is -2", land(ONE, moves(40)), x -> x.flood(3), -2);
        after("BAD is ahead of FULL", land(ONE, moves(40)), x -> x.flood(21), -1);
        after("STATE is ahead of FULL where FULL is last", land("d9000001w090", moves(40)), x -> x.dyke(0), -4);
        after("SPENT is -6", land(ONE), x -> x.dyke(0), -6);
        after("BAD is ahead of SPENT", land(ONE), x -> x.dyke(-1), -1);
        after("STATE is ahead of SPENT", land("d9000000w090"), x -> x.dyke(0), -4);
        after("SPENT is ahead of FULL where FULL is last", land(ONE, moves(40)), x -> x.dyke(0), -6);
        after("BAD is ahead of FINDING: a KIND", land(ONE), x -> x.mark(0, 6), -1);
        after("the FINDING is that it is none of that KIND", land(ONE), x -> x.mark(0, 5), -3);
        refused("no more FULL when one is undone, but BAD", land(ONE, moves(40), x -> x.undo(39)), x -> x.move(0, 6), BAD);
        refused("FULL", land(ONE, moves(40)), x -> x.move(0, 5), FULL);
        refused("STATE", land(ONE, moves(40)), x -> x.move(0, 0), STATE);
        finds("whose() tells of a missing ROW behind STATE", land(ONE), x -> x.whose(0), NOTHING);

        says("NONE -9.");
        onNew("a TEXT without a FAULT", x -> write(x, 0, ONE) + x.fault(0), -9);
        after("HEIGHTS that can't be told from each other", land("d9000000w010", floods(3)), x -> x.high(0), -9);
        afterNone("nobody is left to look at", land(ONE, floods(3)), x -> x.look(1, 0));
        afterNone("no KIND is such", land(ONE, fill(0, 0, 9)), x -> x.test(0, 0));
        afterNone("no dykes are enough", land(ONE), x -> x.least(0, 20, 10));
        refused("NONE is none of those that refuse: BAD", land(ONE, floods(3)), x -> x.look(2, 0), BAD);
    }

    private static void refusedInRich() {
        says("What is refused changes nothing but finding(), findings().");
        Call[] bad = {x -> x.row(6, 0), x -> x.row(0, 41), x -> x.lay(-1, 0, 0), x -> x.at(6, 0), x -> x.tear(6),
            x -> x.copy(0, 0, 6, 0, 0), x -> x.mean(6), x -> x.text(4, 0), x -> x.text(0, 61), x -> x.put(4, 0, 0),
            x -> x.fault(4), x -> x.delta(-1), x -> x.woman(6, 0), x -> x.woman(0, 6), x -> x.mark(0, 0),
            x -> x.hem(0, 2), x -> x.would(0, 21), x -> x.flood(21), x -> x.move(0, 6), x -> x.dyke(6), x -> x.tuck(6),
            x -> x.undo(6), x -> x.keep(3), x -> x.on(3), x -> x.know(64, 0), x -> x.high(2), x -> x.look(64, 0),
            x -> x.looks(2), x -> x.line(2), x -> x.kinds(6, 0), x -> x.test(6, 0), x -> x.whose(6),
            x -> x.raise(7, 0, 0), x -> x.least(0, 21, 0), x -> x.duel(7, 0), x -> x.odds(7), x -> x.lots(0, 1),
            x -> x.count(11), x -> x.findings(6)};
        for (int k = 0; k < bad.length; k++) {
            refused("BAD, call " + k, rich(), bad[k], BAD);
        }
        Call[] beside = {x -> x.delta(1), x -> x.move(0, 3)};
        for (int k = 0; k < beside.length; k++) {
            refused("STATE, call " + k, rich(), beside[k], STATE);
        }
        Call[] missing = {x -> x.lay(3, 0, 0), x -> x.at(3, 0), x -> x.tear(3), x -> x.copy(0, 0, 3, 0, 0),
            x -> x.mean(3), x -> x.put(3, 0, 0), x -> x.fault(3), x -> x.delta(3), x -> x.on(2), x -> x.kinds(0, 3),
            x -> x.test(0, 3), x -> x.whose(3)};
        for (int k = 0; k < missing.length; k++) {
            finds("NOTHING, call " + k, rich(), missing[k], NOTHING);
        }
        Call[] beyond = {x -> x.lay(0, 3, 0), x -> x.at(0, 3), x -> x.copy(0, 1, 2, 0, 3), x -> x.put(0, 99, 0)};
        for (int k = 0; k < beyond.length; k++) {
            finds("BEYOND, call " + k, rich(), beyond[k], BEYOND);
        }
        Call[] sized = {x -> x.row(0, -1), x -> x.copy(0, 0, 2, 0, -1), x -> x.text(0, -1), x -> x.kinds(0, 0),
            x -> x.test(0, 0), x -> x.whose(0)};
        for (int k = 0; k < sized.length; k++) {
            finds("SIZE, call " + k, rich(), sized[k], SIZE);
        }
        finds("UNLIKE, mark()", rich(), x -> x.mark(0, 1), UNLIKE);
        finds("UNLIKE, kinds()", rich(fill(5, 21, 0)), x -> x.kinds(0, 5), UNLIKE);
        finds("UNLIKE, test()", rich(fill(5, 0, 11)), x -> x.test(0, 5), UNLIKE);
        finds("NOUGHT, mean()", rich(), x -> x.mean(1), NOUGHT);
    }

    private static void refusedOnNew() {
        Call[] bad = {x -> x.woman(0, 0), x -> x.mark(0, 1), x -> x.hem(0, 0), x -> x.would(0, 0), x -> x.move(0, 0),
            x -> x.tuck(0), x -> x.undo(1), x -> x.know(0, 0), x -> x.high(0), x -> x.look(0, 0), x -> x.looks(0),
            x -> x.line(0), x -> x.kinds(0, 0), x -> x.test(0, 0), x -> x.least(0, 0, 0)};
        for (int k = 0; k < bad.length; k++) {
            onNewRefused("BAD, call " + k, bad[k], BAD);
        }
        Call[] notNow = {x -> x.flood(0), x -> x.dyke(0), x -> x.keep(0), x -> x.whose(0), x -> x.raise(0, 0, 0),
            x -> x.dry(), x -> x.duel(0, 0), x -> x.odds(0), x -> x.mid(), x -> x.lots(1, 1)};
        for (int k = 0; k < notNow.length; k++) {
            onNewRefused("STATE, call " + k, notNow[k], STATE);
        }
        Call[] missing = {x -> x.lay(0, 0, 0), x -> x.at(0, 0), x -> x.tear(0), x -> x.copy(0, 0, 0, 0, 0),
            x -> x.mean(0), x -> x.put(0, 0, 0), x -> x.fault(0), x -> x.delta(0), x -> x.on(0)};
        for (int k = 0; k < missing.length; k++) {
            onNewFinds("NOTHING, call " + k, missing[k], NOTHING);
        }
    }

    private static void refusedInFull() {
        Made full = land("d0000001w090", floods(3, 4), moves(38));
        Call[] more = {x -> x.flood(1), x -> x.move(0, 5), x -> x.dyke(0), x -> x.tuck(0), x -> x.lots(1, 1)};
        for (int k = 0; k < more.length; k++) {
            refused("FULL, call " + k, full, more[k], FULL);
        }
        refused("SPENT", land(ONE, floods(3, 4), moves(38)), x -> x.dyke(0), SPENT);
        after("what is done behind it is done as if it had not been", () -> {
            HemLine x = rich(y -> y.lay(0, 3, 5), y -> y.flood(21), y -> y.move(0, 3), y -> y.row(0, -1)).make();
            HemLine same = rich().make();
            for (HemLine one : new HemLine[] {x, same}) {
                one.flood(7);
                one.lay(0, 2, 5);
                one.tuck(1);
            }
            is("asked()", x.asked(), same.asked());
            is("digest()", x.digest(), same.digest());
            is("undo(0)", x.undo(0), same.undo(0));
            is("digest() of the first", x.digest(), same.digest());
            is("findings(2)", x.findings(BEYOND), same.findings(BEYOND) + 1);
            is("findings(5)", x.findings(SIZE), same.findings(SIZE) + 1);
        });
    }

    private static void findings() {
        says("FINDINGS: 1 NOTHING (a ROW, a TEXT, a kept DELTA that is missing), 2 BEYOND (a place that there is not), 3 "
            + "UNLIKE (a WOMAN of another KIND; a number that is none), 4 NOUGHT (shared among none; nothing fits), 5 SIZE "
            + "(fewer than none; not as many as due).");
        onNewFinds("a ROW is missing", x -> x.at(5, 0), 1);
        onNewFinds("a TEXT is missing", x -> x.fault(3), 1);
        onNewFinds("a kept DELTA is missing", x -> x.on(2), 1);
        onNewFinds("a ROW of fewer than none", x -> x.row(0, -1), 5);
        onNewFinds("a TEXT of fewer than none", x -> x.text(0, -1), 5);
        after("1 where 2 was ahead", bare(x -> x.row(0, 2), x -> x.at(0, 2), x -> x.at(1, 0)), x -> x.finding(), 1);
        after("2 where 1 was ahead", bare(x -> x.row(0, 2), x -> x.at(1, 0), x -> x.at(0, 2)), x -> x.finding(), 2);
        after("4: a mean of none", bare(x -> x.row(0, 0), x -> x.at(1, 0), x -> x.mean(0)), x -> x.finding(), 4);
        finds("a torn ROW is missing", bare(x -> x.row(0, 2), x -> x.tear(0)), x -> x.at(0, 0), 1);
        finds("a kept DELTA is gone by another one", land(ONE, x -> x.keep(1), x -> x.delta(0)), x -> x.on(1), 1);
        finds("a place that a ROW has not", bare(x -> x.row(0, 2)), x -> x.lay(0, 2, 1), 2);
        finds("a place that a TEXT has not", bare(x -> x.text(0, 2)), x -> x.put(0, 2, 1), 2);
        finds("a place that a ROW has not any more", bare(x -> x.row(0, 9), x -> x.row(0, 2)), x -> x.at(0, 8), 2);
        finds("a WOMAN of another KIND", land(ALL_KINDS), x -> x.mark(1, 4), 3);
        finds("a HEIGHT that is none", land(ONE, fill(0, 21, 0)), x -> x.kinds(0, 0), 3);
        finds("a HEM that is none", land(ONE, fill(0, 0, 11)), x -> x.test(0, 0), 3);
        finds("a mean shared among none", bare(x -> x.row(0, 0)), x -> x.mean(0), 4);
        finds("not by pairs", land(ONE, fill(0, 1, 1, 1)), x -> x.kinds(0, 0), 5);
        finds("more HEMS than YEARS", land(ONE, floods(3), fill(0, 3, 3)), x -> x.whose(0), 5);
        finds("copies of fewer than none", bare(x -> x.row(0, 2)), x -> x.copy(0, 0, 0, 0, -1), 5);
    }

    private static void chancesAndSets() {
        says("Chances, means are told by upper(), lower(), in lowest terms, the lower number above 0 (0 by 1).");
        onNew("upper(): nothing was told", x -> x.upper(), 0);
        onNew("lower() is above 0", x -> x.lower(), 1);
        afterParts("2 by 4", land(ONE, floods(0, 1, 1, 0)), x -> x.odds(1), 1, 2);
        afterParts("a mean of 2 by 4", land(ONE, floods(0, 1, 1, 0)), x -> x.mid(), 1, 2);
        afterParts("a mean of 18 by 4", land(ONE, floods(9, 5, 3, 1)), x -> x.mid(), 9, 2);
        afterParts("3 by 6", land(ONE, floods(0, 1, 0, 1, 0, 1)), x -> x.odds(1), 1, 2);
        afterParts("6 by 2 is 3 by 1", land(ONE, floods(2, 4)), x -> x.mid(), 3, 1);
        afterParts("a chance of none is 0 by 1", land(ONE, floods(0, 0, 0)), x -> x.odds(1), 0, 1);
        afterParts("a mean of none is 0 by 1", land(ONE, floods(0, 0, 0)), x -> x.mid(), 0, 1);
        afterParts("1 by 1", land(ONE, floods(4, 4, 4, 4, 4, 4)), x -> x.odds(1), 1, 1);
        afterParts("a flood is undone: 1 by 3", land(ONE, floods(0, 1, 0, 1), x -> x.undo(3)), x -> x.odds(1), 1, 3);
        afterParts("gone on from: 1 by 2", land(ONE, floods(0, 1), x -> x.keep(0), floods(1), x -> x.on(0)),
            x -> x.mid(), 1, 2);
        refused("what was told stays", land(ONE, floods(0, 1), x -> x.mid()), x -> x.odds(7), BAD);
        refused("what was told stays: no floods", land(ONE, floods(0, 1), x -> x.mid(), x -> x.undo(0)), x -> x.mid(),
            STATE);

        says("Sets (of WOMEN, KINDS, HEIGHTS 0 .. 20) are told by bits.");
        onNew("no set of WOMEN is one of nobody's YEAR", x -> x.know(0, 0), BAD);
        Made steps = land("d0123450w090w190w290w390w490w590", floods(0));
        for (int i = 0; i < 6; i++) {
            int woman = i;
            after("bit " + i + " is WOMAN " + i + ", who knows HEIGHTS up to her GROUND", steps,
                x -> x.know(1 << woman, 0), (2 << woman) - 1);
        }
        after("all HEIGHTS are bits 0 to 20", steps, x -> x.know(0, 0), (1 << 21) - 1);
        after("all KINDS are bits 0 to 5", land(ONE, x -> x.row(0, 0)), x -> x.kinds(0, 0), 63);
        after("bit 4 is a GIRL", land(ONE, fill(0, 20, 10)), x -> x.kinds(0, 0), 16);
        after("bit 3 is a WIDOW", land(ONE, fill(0, 20, 4)), x -> x.kinds(0, 0), 8);
        after("bits 0, 2 are WOMEN 0, 2", land("d0300000w090w190w090", fill(0, 5), floods(5)), x -> x.whose(0), 5);
        afterTells("bit 1 is WOMAN 1", land("d0000000w010w090", floods(5)), x -> x.looks(0), 1, 2);
        refused("a bit beyond", steps, x -> x.know(64, 0), BAD);
        refused("below 0", steps, x -> x.look(-1, 0), BAD);
    }

    // ---- 1

    private static void rowsAndTexts() {
        says("======== 1 ROWS 0 .. 5 are rows of 0 to 40 ints, TEXTS 0 .. 3 rows of 0 to 60 bytes, or missing (at first).");
        for (int k = 0; k < 6; k++) {
            int r = k;
            onNewFinds("ROW " + k + " is missing at first", x -> x.at(r, 0), NOTHING);
            onNew("ROW " + k + " of 40", x -> x.row(r, 40), 40);
            onNew("ROW " + k + " of 0", x -> x.row(r, 0), 0);
            afterTells("ROW " + k + ", the last of 40 ints", bare(x -> x.row(r, 40), x -> x.lay(r, 39, MOST)),
                x -> x.at(r, 39), 1, MOST);
        }
        for (int k = 0; k < 4; k++) {
            int t = k;
            onNewFinds("TEXT " + k + " is missing at first", x -> x.put(t, 0, 0), NOTHING);
            onNew("TEXT " + k + " of 60", x -> x.text(t, 60), 60);
            onNew("TEXT " + k + " of 0", x -> x.text(t, 0), 0);
            after("TEXT " + k + ", the last of 60 bytes", bare(x -> x.text(t, 60), x -> x.put(t, 59, 127)),
                x -> x.put(t, 59, 0), 1127);
        }
        afterTells("the least int", bare(fill(0, LEAST)), x -> x.at(0, 0), 1, LEAST);
        after("the least byte", bare(x -> x.text(0, 1), x -> x.put(0, 0, -128)), x -> x.put(0, 0, 0), 872);
        refusedEach("no such ROW", rich(), r -> x -> x.row(r, 0), -1, 6, LEAST, MOST);
        refusedEach("no such TEXT", rich(), t -> x -> x.text(t, 0), -1, 4, LEAST, MOST);
        refusedEach("ROW of too many:", rich(), n -> x -> x.row(0, n), 41, MOST);
        refusedEach("TEXT of too many:", rich(), n -> x -> x.text(0, n), 61, MOST);
    }

    /** What fault() answers of these signs in a TEXT of a new object, and delta(): the WOMEN, or STATE. */
    private static void reads(String what, String signs, int fault, int women) {
        onNew(what + ": fault()", x -> write(x, 2, signs) + x.fault(2), fault);
        onNew(what + ": delta()", x -> write(x, 2, signs) + x.delta(2), women);
    }

    private static void blanks() {
        says("A DELTA (without WOMEN at first) is a TEXT: blanks (32) ahead, between, behind as many as wanted, none within "
            + "items.");
        onNew("without WOMEN at first", x -> x.count(0), 0);
        reads("no blanks", "d0123456w053b160", NONE, 2);
        reads("one between", "d0123456 w053 b160", NONE, 2);
        reads("blanks everywhere", "   d0123456    w053  b160    ", NONE, 2);
        reads("60 signs of them", "                        d0123456                        w053", NONE, 1);
        reads("behind d", "d 0123456w053", 1, STATE);
        reads("within the GROUND", "d012 3456w053", 4, STATE);
        reads("ahead of EARTH", "d012345 6w053", 7, STATE);
        reads("behind a letter", "d0123456w 053", 9, STATE);
        reads("ahead of TALL", "d0123456w0 53", 10, STATE);
        reads("ahead of the TUCK", "d0123456w05 3", 11, STATE);
        reads("9 is no blank", "\td0123456w053", 0, STATE);
        reads("0 is no blank", "d0123456\0w053", 8, STATE);
        reads("a byte below 0 is no blank", "d0123456w053\u00a0", 12, STATE);
        reads("10 is no blank", "d0123456w053\n", 12, STATE);
        after("as it is put now", bare(x -> write(x, 0, "d0123456xw053"), x -> x.put(0, 8, 32)), x -> x.fault(0), NONE);
        after("as it is put then", land("d0123456 w053", x -> x.put(0, 8, 31)), x -> x.fault(0), 8);
        after("the DELTA that was begun stays when the TEXT is changed", land(ONE, x -> x.text(0, 0)), x -> x.count(0), 1);
        refused("no DELTA by blanks within", rich(x -> write(x, 1, "d012 3456w053")), x -> x.delta(1), STATE);
    }

    private static void land() {
        says("The first item is d (100), the GROUND of PLACES 0 .. 5 (six figures 0 .. 9), EARTH (0 .. 9, one figure).");
        reads("d is 100", "d9999999w010", NONE, 1);
        reads("e is none", "e9999999w010", 0, STATE);
        reads("c is none", "c9999999w010", 0, STATE);
        reads("D is none", "D9999999w010", 0, STATE);
        reads("a WOMAN is not first", "w010d9999999", 0, STATE);
        for (int p = 0; p < 7; p++) {
            String what = p < 6 ? "GROUND " + p : "EARTH";
            reads(what + ": 0", "d3333333w010".substring(0, 1 + p) + "0" + "d3333333w010".substring(2 + p), NONE, 1);
            reads(what + ": 9", "d3333333w010".substring(0, 1 + p) + "9" + "d3333333w010".substring(2 + p), NONE, 1);
            reads(what + ": below 0", "d3333333w010".substring(0, 1 + p) + "/" + "d3333333w010".substring(2 + p), 1 + p,
                STATE);
            reads(what + ": above 9", "d3333333w010".substring(0, 1 + p) + ":" + "d3333333w010".substring(2 + p), 1 + p,
                STATE);
        }
        reads("an eighth figure", "d33333333w010", 8, STATE);
        reads("one figure less", "d333333w010", 7, STATE);
        reads("a second one of them", "d3333333 d3333333 w010", 9, STATE);
        for (int p = 0; p < 6; p++) {
            int place = p;
            after("GROUND of PLACE " + p, land("d1234565w010", x -> place == 0 ? 0 : x.move(0, place)), x -> x.dry(),
                1 + p);
        }
        after("all GROUND", land("d1234565w010"), x -> x.count(4), 21);
        after("EARTH", land("d1234565w010"), x -> x.count(3), 5);
        after("another DELTA's GROUND", land("d1234565w010", begun("d9999990b010")), x -> x.count(4), 54);
        after("another DELTA's EARTH", land("d1234565w010", begun("d9999990b010")), x -> x.count(3), 0);
        refused("no DELTA by such an item", rich(x -> write(x, 1, "d333333:w010")), x -> x.delta(1), STATE);
    }

    private static void women() {
        says("Then WOMEN (1 to 6; 0, 1, .. as they come): a letter, the PLACE (0 .. 5), how TALL (1 .. 9), the TUCK (0 .. 3), "
            + "one figure each.");
        reads("no WOMAN", "d0000000", 8, STATE);
        reads("one", "d0000000w010", NONE, 1);
        reads("six", "d0000000w010w010w010w010w010w010", NONE, 6);
        reads("seven", "d0000000w010w010w010w010w010w010w010", 32, STATE);
        reads("PLACE 0, TALL 1, TUCK 0", "d0000000l010", NONE, 1);
        reads("PLACE 5, TALL 9, TUCK 3", "d0000000l593", NONE, 1);
        reads("PLACE 6", "d0000000l693", 9, STATE);
        reads("PLACE below 0", "d0000000l/93", 9, STATE);
        reads("TALL 0", "d0000000l503", 10, STATE);
        reads("TALL above 9", "d0000000l5:3", 10, STATE);
        reads("TUCK 4", "d0000000l594", 11, STATE);
        reads("TUCK below 0", "d0000000l59/", 11, STATE);
        reads("a figure more", "d0000000l5933", 12, STATE);
        reads("a figure less", "d0000000l59 l593", 11, STATE);
        reads("a letter behind the figures", "d0000000593l", 8, STATE);
        Made three = land("d0000000w053 b160 a271");
        int[][] facts = {{0, 0, 5, 3}, {1, 1, 6, 0}, {5, 2, 7, 1}};
        for (int i = 0; i < 3; i++) {
            for (int what = 0; what < 4; what++) {
                int woman = i, fact = what;
                afterTells("WOMAN " + i + " as she comes, fact " + what, three, x -> x.woman(woman, fact), 1,
                    facts[i][what]);
            }
        }
        after("as many as another DELTA has", land(ALL_KINDS, begun("d0000000w053 b160 a271")), x -> x.count(0), 3);
        refused("WOMAN 3 of three is none", three, x -> x.woman(3, 0), BAD);
        refused("no DELTA by a WOMAN that is none", rich(x -> write(x, 1, "d0000000w061b060b601")), x -> x.delta(1), STATE);
    }

    private static void fault() {
        says("A FAULT is the first place at which it can't go on so (a letter, a figure that is none such, a seventh WOMAN: "
            + "its place; the TEXT's size, if its end comes too early, or there is no WOMAN, or there are blanks alone).");
        reads("a letter that is none such", "d0000000w010x010", 12, STATE);
        reads("W is none such", "d0000000W010", 8, STATE);
        reads("d is none of the WOMEN's", "d0000000d010", 8, STATE);
        reads("a figure where a letter is due", "d00000001010", 8, STATE);
        reads("a letter where a figure is due", "d00000w0", 6, STATE);
        reads("the first of two", "d0:00000w0:0", 2, STATE);
        reads("a seventh WOMAN behind blanks", "d0000000w010w010w010w010w010w010  w010", 34, STATE);
        reads("a seventh WOMAN with a figure that is none such", "d0000000w010w010w010w010w010w010b999", 32, STATE);
        reads("a sign behind six", "d0000000w010w010w010w010w010w0100", 32, STATE);
        reads("the end, nothing ahead", "", 0, STATE);
        reads("the end behind d", "d", 1, STATE);
        reads("the end within the GROUND", " d01234", 7, STATE);
        reads("the end ahead of EARTH", "d012345", 7, STATE);
        reads("the end behind the letter of a second WOMAN", "d0123456w010 b", 14, STATE);
        reads("the end ahead of TALL", "d0123456w0", 10, STATE);
        reads("the end ahead of the TUCK", "d0123456w01", 11, STATE);
        reads("no WOMAN, blanks behind", "d0123456    ", 12, STATE);
        reads("one blank alone", " ", 1, STATE);
        onNew("60 blanks alone", x -> x.text(0, 60) + x.fault(0) - 60, 60);
        after("mended", bare(x -> write(x, 0, "d0000000w010x010"), x -> x.put(0, 12, 'g')), x -> x.fault(0), NONE);
        after("a TEXT anew has blanks alone", land(ONE, x -> x.text(0, 5)), x -> x.fault(0), 5);
        after("WOMEN of the DELTA do not change it", land("d9999990w010", x -> write(x, 1, "d0"), x -> x.flood(4)),
            x -> x.fault(1), 2);
        refused("no FAULT of a TEXT that is none", rich(), x -> x.fault(4), BAD);
        finds("no FAULT of a TEXT that is missing", rich(), x -> x.fault(3), NOTHING);
    }

    // ---- KINDS, HEMS

    private static void kinds() {
        says("KINDS of WOMEN and letters: 0 WOMAN (w, 119), 1 BRIDE (b, 98; a WOMAN), 2 LIAR (l, 108; a WOMAN), 3 WIDOW (v, "
            + "118; a WOMAN), 4 GIRL (g, 103; a BRIDE), 5 AUNT (a, 97; a LIAR).");
        int[] letters = {119, 98, 108, 118, 103, 97};
        for (int k = 0; k < 6; k++) {
            int kind = k;
            onNew("letter " + letters[k], () -> {
                HemLine x = land("d0000000w010", y -> y.put(0, 8, letters[kind]), y -> y.delta(0)).make();
                is("woman(0, 0)", x.woman(0, 0), 1);
                is("asked()", x.asked(), kind);
            });
        }
        for (int letter = 90; letter <= 122; letter++) {
            int sign = letter;
            boolean one = java.util.Arrays.stream(letters).anyMatch(known -> known == sign);
            onNew("FAULT of letter " + letter, x -> write(x, 0, "d0000000w010") + x.put(0, 8, sign) * 0 + x.fault(0),
                one ? NONE : 8);
        }
        boolean[][] is = {{false, false, false, false, false}, {true, false, false, false, false},
            {false, true, false, false, false}, {false, false, true, false, false}, {true, false, false, true, false},
            {false, true, false, false, true}};
        for (int i = 0; i < 6; i++) {
            for (int k = 1; k <= 5; k++) {
                int woman = i, kind = k;
                if (is[i][k - 1]) {
                    after("one of KIND " + i + " is of KIND " + k, land(ALL_KINDS), x -> x.mark(woman, kind), 0);
                } else {
                    finds("one of KIND " + i + " is not of KIND " + k, land(ALL_KINDS), x -> x.mark(woman, kind), UNLIKE);
                }
            }
        }
        after("of another DELTA", land("d0000000w010", begun("d0000000g010")), x -> x.mark(0, 1), 0);
        after("BRIDES are BRIDES and GIRLS", land(ALL_KINDS), x -> x.count(7), 2);
    }

    private static void wet() {
        says("A flood of HEIGHT f (0 .. 20) makes one WET by f less the GROUND of her PLACE (0 at least).");
        onNew("nobody is made WET", x -> x.flood(20), STATE);
        Made two = land("d0350003w093w193w290");
        afterParts("5 and 2 and 0", land("d0350003w090w190w290", floods(5)), x -> x.mid(), 7, 1);
        afterParts("0 at least, each", land("d0350003w090w190w290", floods(1)), x -> x.mid(), 1, 1);
        afterParts("by HEIGHT 0", land("d0350003w090w190w290", floods(0)), x -> x.mid(), 0, 1);
        afterParts("by HEIGHT 20", land("d0350003w090w190w290", floods(20)), x -> x.mid(), 52, 1);
        after("two of three by HEIGHT 5", two, x -> x.flood(5), 2);
        after("three of three by HEIGHT 6", two, x -> x.flood(6), 3);
        after("by the GROUND as a dyke has raised it", land("d0350003w090w190w290", x -> x.dyke(1), x -> x.dyke(1)),
            x -> x.would(1, 9), 4);
        after("by the PLACE where she moved", land("d0350003w090w190w290", x -> x.move(0, 2)), x -> x.would(0, 9), 4);
        after("when that is undone", land("d0350003w090w190w290", x -> x.move(0, 2), x -> x.undo(0)),
            x -> x.would(0, 8), 8);
        after("when gone on from", land("d0350003w090w190w290", x -> x.move(0, 2), x -> x.keep(2), x -> x.move(0, 1),
            x -> x.on(2)), x -> x.would(0, 9), 4);
        after("by another DELTA's GROUND", land("d0350003w090", begun("d9000000w090")), x -> x.would(0, 10), 1);
        refusedEach("no HEIGHT:", two, f -> x -> x.flood(f), -1, 21);
        refusedEach("no HEIGHT that would:", two, f -> x -> x.would(0, f), -1, 21);
    }

    /** What her HEM would be, and is when such a flood has been. */
    private static void hems(String what, String signs, int... heightsAndHems) {
        for (int k = 0; k < heightsAndHems.length; k += 2) {
            int f = heightsAndHems[k], due = heightsAndHems[k + 1];
            after(what + " would by " + f, land(signs), x -> x.would(0, f), due);
            after(what + " by " + f, land(signs, floods(f)), x -> x.hem(0, 0), due);
            after(what + " by " + f + " in YEAR 2", land(signs, floods(0, 20, f)), x -> x.hem(0, 2), due);
        }
    }

    private static void hemOfNobody() {
        onNew("nobody has one", x -> x.hem(0, 0), BAD);
        onNew("nobody would have one", x -> x.would(0, 0), BAD);
        refused("of a YEAR that is not past", land("d2000000w053", floods(9)), x -> x.hem(0, 1), BAD);
        refused("of a WOMAN that is none", land("d2000000w053", floods(9)), x -> x.hem(1, 0), BAD);
    }

    private static void hem() {
        says("Her HEM of YEAR m is WET, TALL at most;");
        hemOfNobody();
        hems("a WOMAN of TALL 5, GROUND 2, TUCK 3", "d2000000w053", 0, 0, 2, 0, 3, 1, 6, 4, 7, 5, 8, 5, 20, 5);
        hems("a WOMAN of TALL 1", "d0000000w010", 0, 0, 1, 1, 2, 1);
        hems("a WOMAN of TALL 9", "d0000000w090", 8, 8, 9, 9, 10, 9);
        hems("a WOMAN of TALL 9, GROUND 9", "d9000000w090", 9, 0, 10, 1, 18, 9, 20, 9);
        after("each YEAR's own", land("d2000000w053", floods(9, 3, 5)), x -> x.hem(0, 1), 1);

        says("a BRIDE's (GIRL's, too) 2 at least;");
        hemOfNobody();
        hems("a BRIDE of TALL 5, GROUND 2", "d2000000b053", 0, 2, 3, 2, 4, 2, 5, 3, 7, 5, 8, 5, 20, 5);
        hems("a BRIDE of TALL 1", "d0000000b010", 0, 2, 20, 2);
        hems("a GIRL of TALL 5, GROUND 2", "d2000000g053", 0, 3, 4, 3, 5, 4, 7, 6, 8, 6);
        hems("a WOMAN's is less", "d2000000w053", 3, 1, 4, 2);
        hems("a WIDOW's is less", "d2000000v053", 3, 1);
    }

    private static void hemOfLiarWidow() {
        says("a LIAR's (AUNT's, too) less by the TUCK (0 at least);");
        hemOfNobody();
        hems("a LIAR of TALL 5, TUCK 2", "d0000000l052", 0, 0, 1, 0, 2, 0, 3, 1, 5, 3, 6, 3, 20, 3);
        hems("a LIAR of TALL 9, TUCK 3", "d0000000l093", 2, 0, 3, 0, 4, 1, 9, 6, 20, 6);
        hems("a LIAR of TALL 1, TUCK 3", "d0000000l013", 0, 0, 20, 0);
        hems("a LIAR without a TUCK", "d0000000l050", 0, 0, 1, 1, 20, 5);
        hems("a WOMAN's is not less", "d0000000w052", 3, 3);
        hems("a WIDOW's is not less by it", "d0000000v093", 3, 3);
        after("an AUNT's, too, in YEAR 1", land("d0000000a052", floods(0, 6)), x -> x.hem(0, 1), 3);
        after("an AUNT's, too, in YEAR 1, 0 at least", land("d0000000a053", floods(0, 2)), x -> x.hem(0, 1), 0);
        after("an AUNT's would be, too, in YEAR 7", land("d0000000a093", floods(0, 0, 0, 0, 0, 0, 0)),
            x -> x.would(0, 9), 6);
        after("by a TUCK more", land("d0000000l050", x -> x.tuck(0)), x -> x.would(0, 5), 4);
        after("when the TUCK is undone", land("d0000000l050", x -> x.tuck(0), x -> x.undo(0)), x -> x.would(0, 5), 5);

        says("a WIDOW's half of TALL (cut) at most;");
        hemOfNobody();
        hems("a WIDOW of TALL 5", "d0000000v053", 0, 0, 1, 1, 2, 2, 3, 2, 20, 2);
        hems("a WIDOW of TALL 1", "d0000000v010", 0, 0, 1, 0, 20, 0);
        hems("a WIDOW of TALL 8, GROUND 2", "d2000000v080", 2, 0, 5, 3, 6, 4, 7, 4, 20, 4);
        hems("a WIDOW of TALL 9", "d0000000v090", 4, 4, 5, 4);
        hems("a WOMAN's is more", "d0000000w053", 3, 3);
        hems("a LIAR's is more", "d0000000l050", 3, 3);
    }

    private static void hemOfGirlAunt() {
        says("a GIRL's 1 more than a BRIDE's;");
        hemOfNobody();
        hems("a GIRL of TALL 9", "d0000000g093", 0, 3, 1, 3, 2, 3, 3, 4, 8, 9, 9, 10, 10, 10, 20, 10);
        hems("a GIRL of TALL 1", "d0000000g010", 0, 3, 20, 3);
        hems("a BRIDE's is as told", "d0000000b093", 9, 9, 2, 2);

        says("an AUNT's in YEARS of an even number as a WOMAN's.");
        hemOfNobody();
        hems("an AUNT of TALL 5, TUCK 3, of YEARS 0, 2", "d0000000a053", 0, 0, 3, 3, 5, 5, 6, 5, 20, 5);
        for (int y = 0; y < 8; y++) {
            int year = y;
            after("of YEAR " + y, land("d0000000a053", floods(new int[year]), floods(9)), x -> x.hem(0, year),
                year % 2 == 0 ? 5 : 2);
            after("of YEAR " + y + ", that is due", land("d0000000a053", floods(new int[year])), x -> x.would(0, 9),
                year % 2 == 0 ? 5 : 2);
        }
        after("a LIAR's is not so", land("d0000000l053", floods(9, 9)), x -> x.hem(0, 0), 2);
        after("by numbers of YEARS, not of DEEDS", land("d0000000a053", x -> x.move(0, 1), floods(9)), x -> x.hem(0, 0), 5);
        after("YEAR 1 again when its flood is undone", land("d0000000a053", floods(1, 2), x -> x.undo(1), floods(9)),
            x -> x.hem(0, 1), 2);
    }

    // ---- 2

    private static void years() {
        says("======== 2 YEAR 0 is due at first, no floods were.");
        onNew("no YEARS past", x -> x.count(1), 0);
        onNew("no last flood", x -> x.count(6), 0);
        after("a DELTA is begun: no YEARS past", land(ONE), x -> x.count(1), 0);
        after("YEAR 0 is due: an AUNT's HEM would be a WOMAN's", land("d0000000a093"), x -> x.would(0, 9), 9);
        after("YEAR 0 is due: the first HEM is of YEAR 0", land(ONE, floods(7)), x -> x.hem(0, 0), 7);
        after("another DELTA begins with YEAR 0", land(ONE, floods(7, 8), begun("d0000000a093")), x -> x.would(0, 9), 9);
        after("another DELTA has no YEARS past", land(ONE, floods(7, 8), begun("d0000000a093")), x -> x.count(1), 0);
        refused("no HEM of YEAR 0", land(ONE), x -> x.hem(0, 0), BAD);
        refused("no HEM of YEAR 0 of another DELTA", land(ONE, floods(7, 8), begun(ONE)), x -> x.hem(0, 0), BAD);

        says("A flood: each WOMAN has a HEM of it (as of PLACES, GROUND, TUCKS then); the next YEAR is due.");
        onNew("no flood without WOMEN", x -> x.flood(3) + x.count(1), STATE);
        for (int i = 0; i < 6; i++) {
            int woman = i;
            after("WOMAN " + i + " has one", land("d0123450w090w190w290w390w490w590", floods(9)),
                x -> x.hem(woman, 0), 9 - i);
        }
        after("YEARS past", land(ONE, floods(7, 8)), x -> x.count(1), 2);
        after("the next YEAR is due", land("d0000000a093", floods(7)), x -> x.would(0, 9), 6);
        after("her PLACE then", land("d0500000w090", floods(9), x -> x.move(0, 1)), x -> x.hem(0, 0), 9);
        after("her PLACE since", land("d0500000w090", x -> x.move(0, 1), floods(9)), x -> x.hem(0, 0), 4);
        after("the GROUND then", land("d0000001w090", floods(9), x -> x.dyke(0)), x -> x.hem(0, 0), 9);
        after("the GROUND since", land("d0000001w090", x -> x.dyke(0), floods(9)), x -> x.hem(0, 0), 8);
        after("her TUCK then", land("d0000000l090", floods(9), x -> x.tuck(0)), x -> x.hem(0, 0), 9);
        after("her TUCK since", land("d0000000l090", x -> x.tuck(0), floods(9)), x -> x.hem(0, 0), 8);
        after("undone: the YEAR is due again", land("d0000000a093", floods(7), x -> x.undo(0)), x -> x.would(0, 9), 9);
        refused("no flood of no HEIGHT", land(ONE), x -> x.flood(21), BAD);

        says("There are 8 YEARS at most.");
        onNew("none without WOMEN", x -> x.flood(0), STATE);
        after("the 8th flood", land(ONE, floods(1, 2, 3, 4, 5, 6, 7)), x -> x.flood(8), 1);
        after("its HEM", land(ONE, floods(1, 2, 3, 4, 5, 6, 7, 8)), x -> x.hem(0, 7), 8);
        after("one is undone", land(ONE, floods(1, 2, 3, 4, 5, 6, 7, 8), x -> x.undo(7)), x -> x.flood(9), 1);
        after("by lots, too", land(ONE, floods(1, 2, 3, 4, 5, 6, 7, 8)), x -> x.lots(20, 12345), 8);
        refused("the 9th flood", land(ONE, floods(1, 2, 3, 4, 5, 6, 7, 8)), x -> x.flood(0), STATE);
        refused("the 9th when gone on from", land(ONE, floods(1, 2, 3, 4, 5, 6, 7, 8), x -> x.keep(0), x -> x.undo(0),
            x -> x.on(0)), x -> x.flood(0), STATE);
    }

    private static void deeds() {
        says("What is done: a flood, a WOMAN moves to another PLACE, a dyke raises the GROUND of a PLACE by 1 (9 at most; "
            + "EARTH is 1 less), a TUCK is 1 more (3 at most).");
        onNew("nothing is done", x -> x.count(2), 0);
        Made land = land("d0880002w090l190");
        after("a flood", land("d0880002w090l190", floods(3)), x -> x.count(6), 3);
        afterTells("a WOMAN moves", land("d0880002w090l190", x -> x.move(1, 4)), x -> x.woman(1, 1), 1, 4);
        afterTells("another one doesn't", land("d0880002w090l190", x -> x.move(1, 4)), x -> x.woman(0, 1), 1, 0);
        after("a dyke: GROUND 1 more", land, x -> x.dyke(1), 9);
        after("a dyke: all GROUND 1 more", land("d0880002w090l190", x -> x.dyke(1)), x -> x.count(4), 17);
        after("a dyke: EARTH 1 less", land("d0880002w090l190", x -> x.dyke(1)), x -> x.count(3), 1);
        afterTells("a TUCK is 1 more", land("d0880002w090l190", x -> x.tuck(1)), x -> x.woman(1, 3), 1, 1);
        after("a TUCK is 1 more: all TUCKS", land("d0880002w090l190", x -> x.tuck(1), x -> x.tuck(0)), x -> x.count(5), 2);
        refused("to the same PLACE is no other one", land, x -> x.move(1, 1), STATE);
        refused("GROUND 9 at most", land("d0880002w090l190", x -> x.dyke(1)), x -> x.dyke(1), STATE);
        refused("no EARTH is left", land("d0880002w090l190", x -> x.dyke(1), x -> x.dyke(2)), x -> x.dyke(3), SPENT);
        refused("TUCK 3 at most", land("d0880002w090l192", x -> x.tuck(1)), x -> x.tuck(1), STATE);
    }

    private static void deedsAtMost() {
        says("These are DEEDS (40 at most).");
        onNew("none", x -> x.undo(0), 0);
        after("each is one", land("d0000002w090", x -> x.flood(3), x -> x.move(0, 1), x -> x.dyke(0), x -> x.tuck(0)),
            x -> x.count(2), 4);
        after("what is asked is none", land(ONE, floods(3), x -> x.know(1, 0), x -> x.raise(2, 9, 0), x -> x.duel(2, 9),
            x -> x.keep(0), x -> x.row(1, 1)), x -> x.count(2), 1);
        after("the 40th", land(ONE, moves(39)), x -> x.move(0, 5), 1);
        after("40", land(ONE, moves(39), x -> x.move(0, 5)), x -> x.count(2), 40);
        after("the last is undone", land(ONE, moves(40), x -> x.undo(39)), x -> x.tuck(0), 1);
        after("another DELTA has none", land(ONE, moves(40), begun(ONE)), x -> x.count(2), 0);
        refused("the 41st: a flood", land(ONE, moves(40)), x -> x.flood(3), FULL);
        refused("the 41st: a move", land(ONE, moves(40)), x -> x.move(0, 5), FULL);
        refused("the 41st: a dyke", land("d0000001w090", moves(40)), x -> x.dyke(0), FULL);
        refused("the 41st: a TUCK", land(ONE, moves(40)), x -> x.tuck(0), FULL);
        refused("the 41st: a lot", land(ONE, moves(40)), x -> x.lots(1, 1), FULL);
        refused("the 41st when gone on from", land(ONE, moves(40), x -> x.keep(2), x -> x.undo(0), x -> x.on(2)),
            x -> x.tuck(0), FULL);
    }

    private static void fits() {
        says("By a WOMAN's HEM of a YEAR a HEIGHT (0 .. 20) FITS, if such a flood would have made it so, the PLACE, GROUND, "
            + "TUCK being as they were then.");
        onNew("of nobody", x -> x.know(0, 0), BAD);
        after("HEM 0 by GROUND 2", land("d2000000w050", floods(1)), x -> x.know(1, 0), bits(0, 2));
        after("HEM 3", land("d2000000w050", floods(5)), x -> x.know(1, 0), 1 << 5);
        after("HEM as TALL is", land("d2000000w050", floods(9)), x -> x.know(1, 0), bits(7, 20));
        after("a BRIDE's HEM 2", land("d2000000b050", floods(1)), x -> x.know(1, 0), bits(0, 4));
        after("a GIRL's HEM 3", land("d2000000g050", floods(1)), x -> x.know(1, 0), bits(0, 4));
        after("a LIAR's HEM 0", land("d0000000l052", floods(1)), x -> x.know(1, 0), bits(0, 2));
        after("a WIDOW's HEM 2", land("d0000000v050", floods(3)), x -> x.know(1, 0), bits(2, 20));
        after("an AUNT's HEM 0 of YEAR 0", land("d0000000a053", floods(0, 0)), x -> x.know(1, 0), 1);
        after("an AUNT's HEM 0 of YEAR 1", land("d0000000a053", floods(0, 0)), x -> x.know(1, 1), bits(0, 3));
        after("her PLACE then", land("d2500000w050", floods(1), x -> x.move(0, 1)), x -> x.know(1, 0), bits(0, 2));
        after("the GROUND then", land("d2000001w050", floods(1), x -> x.dyke(0)), x -> x.know(1, 0), bits(0, 2));
        after("the TUCK then", land("d0000000l051", floods(1), x -> x.tuck(0)), x -> x.know(1, 0), bits(0, 1));
        after("her PLACE when gone on from", land("d2500000w050", floods(1), x -> x.keep(0), x -> x.undo(0),
            x -> x.move(0, 1), floods(1), x -> x.on(0)), x -> x.know(1, 0), bits(0, 2));
        refused("of no YEAR", land("d2000000w050", floods(1)), x -> x.know(1, 1), BAD);
    }

    private static void knows() {
        says("What some WOMEN know of a YEAR: the HEIGHTS that FIT all their HEMS.");
        onNew("nobody is there", x -> x.know(0, 0), BAD);
        Made two = land("d0300000w040w190", floods(4));
        after("WOMAN 0 alone: 4 and more", two, x -> x.know(1, 0), bits(4, 20));
        after("WOMAN 1 alone: just 4", two, x -> x.know(2, 0), 1 << 4);
        after("both", two, x -> x.know(3, 0), 1 << 4);
        Made three = land("d0500000w040w190b090", floods(5));
        after("4 and more, up to 5", three, x -> x.know(3, 0), bits(4, 5));
        after("besides a BRIDE, who knows", three, x -> x.know(7, 0), 1 << 5);
        after("of another YEAR", land("d0500000w040w190b090", floods(5, 2)), x -> x.know(3, 1), 1 << 2);
        refused("a WOMAN that is none", two, x -> x.know(4, 0), BAD);
    }

    // ---- what the interface says

    private static void interfaces() {
        passes("Ahead of the calls row, lay, at, tear, copy, mean, text, put, fault, delta, woman, mark, hem, would the "
            + "interface says: ---- 1 rows, texts, deltas.");
        passes("Ahead of the calls flood, move, dyke, tuck, undo, keep, on the interface says: ---- 2 deeds.");
        says("Ahead of the calls know, high, look, looks, line the interface says: ---- 3 how high it was (y: a YEAR that is "
            + "past).");
        Numbered[] calls = {y -> x -> x.know(0, y), y -> x -> x.high(y), y -> x -> x.look(0, y), y -> x -> x.looks(y),
            y -> x -> x.line(y)};
        int[] answers = {ALL_HEIGHTS, NONE, 0, 1, 1};
        for (int k = 0; k < calls.length; k++) {
            Numbered call = calls[k];
            onNew("no YEAR is past, call " + k, call.by(0), BAD);
            after("YEAR 7 is past, call " + k, land("d9000000w090w010", floods(0, 0, 0, 0, 0, 0, 0, 18)), call.by(7),
                answers[k]);
            refusedEach("call " + k + " of YEAR", land(ONE, floods(3, 4)), call, -1, 2, 8);
            refusedEach("undone, call " + k + " of YEAR", land(ONE, floods(3, 4), x -> x.undo(1)), call, 1);
            refusedEach("of another DELTA, call " + k + " of YEAR", land(ONE, floods(3, 4), begun(ONE)), call, 0);
        }
    }

    private static void whoInterface() {
        says("Ahead of the calls kinds, test, whose the interface says: ---- 4 who one is (a ROW of pairs: the HEIGHT of a "
            + "flood 0 .. 20, a HEM 0 .. 10; in the YEAR that is due, PLACE, GROUND, TALL, TUCK as now).");
        onNew("of nobody", x -> x.kinds(0, 0), BAD);
        after("HEIGHT 0, HEM 0 are numbers: none of BRIDES", land(ONE, fill(0, 0, 0)), x -> x.kinds(0, 0), 1 + 4 + 8 + 32);
        after("HEIGHT 20, HEM 10 are numbers: a GIRL", land(ONE, fill(0, 20, 10)), x -> x.kinds(0, 0), 16);
        Made liar = land("d0000002w091", fill(0, 5, 4));
        after("YEAR 0 is due: a LIAR, a WIDOW", liar, x -> x.kinds(0, 0), 4 + 8);
        after("YEAR 1 is due: an AUNT, too", land("d0000002w091", fill(0, 5, 4), floods(3)), x -> x.kinds(0, 0),
            4 + 8 + 32);
        after("PLACE as now", land("d0100002w091", fill(0, 5, 4), x -> x.move(0, 1)), x -> x.kinds(0, 0), 1 + 2 + 8 + 32);
        after("GROUND as now", land("d0000002w091", fill(0, 5, 4), x -> x.dyke(0)), x -> x.kinds(0, 0), 1 + 2 + 8 + 32);
        after("TALL as now", land("d0000002w091", fill(0, 5, 4), begun("d0000002w041")), x -> x.kinds(0, 0),
            1 + 2 + 32);
        after("TUCK as now", land("d0000002w090", fill(0, 5, 4), x -> x.tuck(0)), x -> x.kinds(0, 0), 4 + 8);
        after("undone", land("d0000002w091", fill(0, 5, 4), x -> x.dyke(0), x -> x.undo(0)), x -> x.kinds(0, 0), 4 + 8);
        finds("HEIGHT 21", land(ONE, fill(0, 21, 0)), x -> x.kinds(0, 0), UNLIKE);
        finds("HEIGHT -1", land(ONE, fill(0, -1, 0)), x -> x.test(0, 0), UNLIKE);
        finds("HEM 11", land(ONE, fill(0, 0, 0, 0, 11)), x -> x.kinds(0, 0), UNLIKE);
        finds("HEM -1", land(ONE, fill(0, 0, -1)), x -> x.test(0, 0), UNLIKE);
    }

    private static void chancesInterface() {
        passes("Ahead of the calls raise, dry, least the interface says: ---- 5 dykes.");
        passes("Ahead of the calls duel the interface says: ---- 6 by turns.");
        says("Ahead of the calls odds, mid, lots the interface says: ---- 7 chances, lots (of the floods of YEARS past one "
            + "comes again, each as likely; WOMEN live, GROUND is as now).");
        onNew("no floods", x -> x.mid(), STATE);
        afterParts("each as likely", land(ONE, floods(1, 2, 6)), x -> x.mid(), 3, 1);
        afterParts("two like ones are two", land(ONE, floods(6, 6, 0)), x -> x.odds(1), 2, 3);
        afterParts("WOMEN live as now", land("d0500000w090", floods(6, 4), x -> x.move(0, 1)), x -> x.odds(1), 1, 2);
        afterParts("GROUND is as now", land("d3000002w090", floods(6, 4), x -> x.dyke(0)), x -> x.mid(), 1, 1);
        afterParts("as it was when gone on from", land("d3000002w090", floods(6, 4), x -> x.keep(1), x -> x.dyke(0),
            x -> x.on(1)), x -> x.mid(), 2, 1);
        refused("floods undone", land(ONE, floods(6), x -> x.undo(0)), x -> x.odds(0), STATE);
        refused("another DELTA's floods", land(ONE, floods(6), begun(ONE)), x -> x.mid(), STATE);
        passes("Ahead of the calls asked, upper, lower, count, finding, findings, digest the interface says: ---- 8 what is "
            + "told.");
    }
}
