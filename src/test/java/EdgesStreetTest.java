import java.util.regex.Matcher;
import java.util.regex.Pattern;

/**
 * Promises 1 to 9 at their edges: one test for each sentence that names a boundary. A test's name begins with the
 * promise's number, the sentence is told in its first line.
 */
public final class EdgesStreetTest {
    private static final Due DUE = new Due("EdgesStreetTest");
    private static final int UNKNOWN = -1;
    private static final int OUTSIDE = -2;
    private static final int STATE = -3;
    private static final int FULL = -4;
    private static final int NONE = -99;
    private static final int MIN = Integer.MIN_VALUE;
    private static final int MAX = Integer.MAX_VALUE;
    private static final String NOSE = "N0110";
    private static final String LONGEST = "S190EEEEWWW-" + NOSE + NOSE + NOSE + NOSE + NOSE + "N9993";
    private static final Pattern STREET =
            Pattern.compile("S[0-9][1-9][0-9][EW-]{0,8}(N[0-9][1-9][0-9][0-3]){0,6}");

    public static void main(String[] args) {
        p01_noNosesNoWinds();
        p01_atFirstItIsS010();
        p01_atMost512Calls();
        p01_noneIsMinus99();
        p02_letter0To255();
        p02_howLongItIs();
        p02_textOf48AtMost();
        p02_fullThereAre48();
        p03_textIsEmpty();
        p03_howLongItWas();
        p04_firstLetterIsS();
        p04_bakerIsACell();
        p04_strength1To9();
        p04_cost0To9();
        p04_winds8AtMost();
        p04_windLetters();
        p04_noses6AtMost();
        p04_noseAtCell();
        p04_noseWants1To9();
        p04_nosePays0To9();
        p04_noseContract0To3();
        p04_placeOfTheFirstLetter();
        p04_whateverCameBehindIt();
        p04_itsLengthIfOnlyNotAtItsEnd();
        p04_noneNone();
        p05_textIsTheStreet();
        p05_rowOfActsIsEmpty();
        p05_whatWasKeptIsGone();
        p05_seenAndSeedStay();
        p05_madeAnew();
        p05_tenTimesWindsAndNoses();
        p05_stateAFault();
        p06_cells0To9();
        p06_howStrong();
        p06_outside();
        p07_windOfAnHour();
        p07_noneNotSoMany();
        p08_whatOfANose();
        p08_numberedAsTheyAreTold();
        p08_hasItNow();
        p08_unknown();
        p08_outside();
        p09_penniesSoFar();
        DUE.end();
    }

    private static MorningBill written(String text) {
        MorningBill bill = new MorningBill();
        Due.write(bill, text);
        return bill;
    }

    private static void faultIs(String text, int due) {
        DUE.is("fault() of '" + text + "'", written(text).fault(), due);
    }

    /** Each of the 256 letters at the end of a text: only those that may be there are no fault. */
    private static void lettersThatMayCome(String before, String may) {
        for (char letter = 0; letter < 256; letter++) {
            MorningBill bill = written(before + letter);
            boolean faultless = bill.fault() != before.length();
            DUE.is("letter " + (int) letter + " behind '" + before + "' may be", faultless ? 1 : 0,
                may.indexOf(letter) >= 0 ? 1 : 0);
        }
    }

    // ---- a new object

    private static void p01_noNosesNoWinds() {
        DUE.sentence(1, "No noses, no winds.");
        MorningBill bill = new MorningBill();
        DUE.is("count(1)", bill.count(1), 0);
        DUE.is("count(2)", bill.count(2), 0);
        DUE.is("wind(0)", bill.wind(0), NONE);
        DUE.is("nose(0, 0)", bill.nose(0, 0), UNKNOWN);
        DUE.is("hour(true)", bill.hour(true), STATE);
        DUE.is("chimney(0)", bill.chimney(0), STATE);
        DUE.is("best(false)", bill.best(false), 0);
        DUE.is("best(true)", bill.best(true), 0);
        DUE.is("bestChimney()", bill.bestChimney(), NONE);
        DUE.is("only(0)", bill.only(0), 0);
        DUE.is("only(1)", bill.only(1), OUTSIDE);
        DUE.is("when(0)", bill.when(0), 1);
        DUE.is("mean(255, 5, true)", bill.mean(255, 5, true), 0);
        DUE.is("mean(255, 5, false)", bill.mean(255, 5, false), 1);
        DUE.is("mornings(20)", bill.mornings(20), 0);
    }

    private static void p01_atFirstItIsS010() {
        DUE.sentence(1, "At first it is S010.");
        MorningBill bill = new MorningBill();
        DUE.is("count(3)", bill.count(3), 0);
        DUE.is("count(4)", bill.count(4), 1);
        DUE.is("count(5)", bill.count(5), 0);
        DUE.is("count(0): no letter is written", bill.count(0), 0);
        MorningBill made = Due.street("S010");
        made.wipe();
        String difference = Future.difference(new MorningBill(), made);
        DUE.holds("a street S010 that is made is another: " + difference, difference.isEmpty());
    }

    private static void p01_atMost512Calls() {
        DUE.sentence(1, "An object is used for at most 512 calls after it has been made; what later calls answer"
            + " is free.");
        MorningBill bill = Due.street(LONGEST);
        int done = LONGEST.length() + 2;
        long chimney = Due.street(LONGEST).bestChimney();
        long share = Due.street(LONGEST).share(5, true);
        long mean = Due.street(LONGEST).mean(255, 3, true);
        while (done < 512) {
            DUE.is("call " + (done + 1) + ", bestChimney()", bill.bestChimney(), chimney);
            DUE.is("call " + (done + 2) + ", share(5, true)", bill.share(5, true), share);
            DUE.is("call " + (done + 3) + ", mean(255, 3, true)", bill.mean(255, 3, true), mean);
            done += 3;
        }
        DUE.is("calls", done, 512);
        MorningBill acts = Due.street("S332--------");
        for (int call = 15; call < 512; call++) {
            acts.chimney(call % 10);
        }
        DUE.is("call 512, count(9)", acts.count(9), 14);
    }

    private static void p01_noneIsMinus99() {
        DUE.sentence(1, "NONE is -99.");
        DUE.is("NONE", MorningBill.NONE, -99);
        DUE.is("UNKNOWN", MorningBill.UNKNOWN, -1);
        DUE.is("OUTSIDE", MorningBill.OUTSIDE, -2);
        DUE.is("STATE", MorningBill.STATE, -3);
        DUE.is("FULL", MorningBill.FULL, -4);
        DUE.is("wind(0) of a new object", new MorningBill().wind(0), -99);
    }

    // ---- write and wipe

    private static void p02_letter0To255() {
        DUE.sentence(2, "A letter (0 to 255) comes behind THE TEXT: how long it is. OUTSIDE;");
        for (int letter = 0; letter <= 255; letter++) {
            DUE.is("write(" + letter + ")", new MorningBill().write(letter), 1);
        }
        int[] outside = {-1, 256, -2, 257, 'S' - 256, 'S' + 256, MIN, MAX};
        for (int letter : outside) {
            MorningBill bill = new MorningBill();
            DUE.is("write(" + letter + ")", bill.write(letter), OUTSIDE);
            DUE.is("count(0) then", bill.count(0), 0);
            DUE.is("write('S') then", bill.write('S'), 1);
        }
    }

    private static void p02_howLongItIs() {
        DUE.sentence(2, "comes behind THE TEXT: how long it is.");
        MorningBill bill = new MorningBill();
        for (int place = 0; place < LONGEST.length(); place++) {
            DUE.is("write at " + place, bill.write(LONGEST.charAt(place)), place + 1);
            DUE.is("write(256) behind it", bill.write(256), OUTSIDE);
        }
        DUE.is("fault()", bill.fault(), NONE);
        DUE.is("street()", bill.street(), 86);
    }

    private static void p02_textOf48AtMost() {
        DUE.sentence(2, "THE TEXT is letters (48 at most).");
        MorningBill bill = written(LONGEST);
        for (int length = 43; length <= 48; length++) {
            DUE.is("write to " + length, bill.write('E'), length);
        }
        DUE.is("count(0)", bill.count(0), 48);
        DUE.is("write the 49th", bill.write('E'), FULL);
        DUE.is("count(0) still", bill.count(0), 48);
        DUE.is("fault() still", bill.fault(), 42);
    }

    private static void p02_fullThereAre48() {
        DUE.sentence(2, "FULL: there are 48.");
        MorningBill bill = new MorningBill();
        for (int length = 1; length <= 47; length++) {
            bill.write('S');
        }
        DUE.is("write the 48th", bill.write('S'), 48);
        for (int time = 0; time < 3; time++) {
            DUE.is("write the 49th", bill.write('S'), FULL);
        }
        DUE.is("wipe(): those refused are not there", bill.wipe(), 48);
        DUE.is("write when wiped", bill.write('S'), 1);
        DUE.is("fault(): it is the only letter", bill.fault(), 1);
    }

    private static void p03_textIsEmpty() {
        DUE.sentence(3, "THE TEXT is empty:");
        MorningBill bill = Due.street("S743EW-N1230");
        bill.wipe();
        DUE.is("count(0)", bill.count(0), 0);
        DUE.is("fault()", bill.fault(), 0);
        DUE.is("street()", bill.street(), STATE);
        DUE.is("count(3): THE STREET stays", bill.count(3), 7);
        DUE.is("wind(2): THE STREET stays", bill.wind(2), 0);
        bill.write('S');
        DUE.is("fault(): no old letter is behind the new one", bill.fault(), 1);
        Due.write(bill, "S010E");
        DUE.is("street(): no old letter is behind the new ones", bill.street(), 10);
    }

    private static void p03_howLongItWas() {
        DUE.sentence(3, "how long it was.");
        MorningBill bill = new MorningBill();
        DUE.is("wipe() of none", bill.wipe(), 0);
        bill.write(0);
        DUE.is("wipe() of one", bill.wipe(), 1);
        DUE.is("wipe() again", bill.wipe(), 0);
        for (int letter = 0; letter < 49; letter++) {
            bill.write('-');
        }
        DUE.is("wipe() of all", bill.wipe(), 48);
    }

    // ---- fault

    private static void p04_firstLetterIsS() {
        DUE.sentence(4, "A STREET is a TEXT: S,");
        lettersThatMayCome("", "S");
    }

    private static void p04_bakerIsACell() {
        DUE.sentence(4, "BAKER (a CELL),");
        lettersThatMayCome("S", "0123456789");
        DUE.is("count(3) of S010", Due.street("S010").count(3), 0);
        DUE.is("count(3) of S910", Due.street("S910").count(3), 9);
    }

    private static void p04_strength1To9() {
        DUE.sentence(4, "STRENGTH (1 to 9),");
        lettersThatMayCome("S0", "123456789");
        DUE.is("count(4) of S010", Due.street("S010").count(4), 1);
        DUE.is("count(4) of S090", Due.street("S090").count(4), 9);
    }

    private static void p04_cost0To9() {
        DUE.sentence(4, "COST (0 to 9),");
        lettersThatMayCome("S01", "0123456789");
        DUE.is("count(5) of S010", Due.street("S010").count(5), 0);
        DUE.is("count(5) of S019", Due.street("S019").count(5), 9);
    }

    private static void p04_winds8AtMost() {
        DUE.sentence(4, "then WINDS, none or more (8 at most; HOUR by HOUR from 0):");
        String winds = "EW-EW-EW";
        for (int count = 0; count <= 8; count++) {
            String text = "S010" + winds.substring(0, count);
            faultIs(text, NONE);
            DUE.is("street() of " + text, written(text).street(), 10 * count);
            lettersThatMayCome(text, count < 8 ? "EW-N" : "N");
        }
        faultIs("S010EEEEEEEEE", 12);
        faultIs("S010WWWWWWWWW", 12);
        faultIs("S010---------", 12);
        faultIs("S010--------" + NOSE, NONE);
        faultIs("S010---------" + NOSE, 12);
    }

    private static void p04_windLetters() {
        DUE.sentence(4, "E (towards 9), W (towards 0), - (none);");
        lettersThatMayCome("S010", "EW-N");
        lettersThatMayCome("S010E", "EW-N");
        lettersThatMayCome("S010" + NOSE, "N");
    }

    private static void p04_noses6AtMost() {
        DUE.sentence(4, "then NOSES, none or more, numbered as they are told (6 at most):");
        for (int winds = 0; winds <= 8; winds += 4) {
            String text = "S010" + "--------".substring(0, winds);
            for (int noses = 0; noses <= 6; noses++) {
                faultIs(text, NONE);
                DUE.is("street() of " + text, written(text).street(), 10 * winds + noses);
                text += NOSE;
            }
            faultIs(text, text.length() - 5);
            faultIs(text.substring(0, text.length() - 4), text.length() - 5);
        }
        lettersThatMayCome(LONGEST, "");
        lettersThatMayCome("S010" + NOSE + NOSE + NOSE + NOSE + NOSE + NOSE, "");
        lettersThatMayCome("S010" + NOSE + NOSE + NOSE + NOSE + NOSE, "N");
    }

    private static void p04_noseAtCell() {
        DUE.sentence(4, "Nctpk a NOSE at CELL c");
        lettersThatMayCome("S010N", "0123456789");
        lettersThatMayCome(LONGEST.substring(0, 38), "0123456789");
    }

    private static void p04_noseWants1To9() {
        DUE.sentence(4, "that has it, if it is t (1 to 9) or stronger,");
        lettersThatMayCome("S010N0", "123456789");
        lettersThatMayCome(LONGEST.substring(0, 39), "123456789");
    }

    private static void p04_nosePays0To9() {
        DUE.sentence(4, "for p PENNIES (0 to 9) an HOUR,");
        lettersThatMayCome("S010N01", "0123456789");
        lettersThatMayCome(LONGEST.substring(0, 40), "0123456789");
    }

    private static void p04_noseContract0To3() {
        DUE.sentence(4, "by CONTRACT k: 0 BY THE HOUR, 1 IN ADVANCE, 2 BY EAST WIND, 3 SENT BACK");
        lettersThatMayCome("S010N010", "0123");
        lettersThatMayCome(LONGEST.substring(0, 41), "0123");
    }

    /** What a pattern says of every text that is a street but for one letter. */
    private static void p04_placeOfTheFirstLetter() {
        DUE.sentence(4, "FAULT: the place of the first letter by which THE TEXT can be no STREET,");
        String signs = "S0139EW-N:/4e" + (char) 0 + (char) 255;
        for (int place = 0; place < LONGEST.length(); place++) {
            for (int sign = 0; sign < signs.length(); sign++) {
                String text = LONGEST.substring(0, place) + signs.charAt(sign) + LONGEST.substring(place + 1);
                faultIs(text, faultByPattern(text));
            }
        }
        faultIs("X", 0);
        faultIs("SX1X", 1);
        faultIs("S0X0", 2);
        faultIs("S01X", 3);
        faultIs(LONGEST + "X", 42);
    }

    private static int faultByPattern(String text) {
        for (int length = 1; length <= text.length(); length++) {
            Matcher begun = STREET.matcher(text.substring(0, length));
            if (!begun.matches() && !begun.hitEnd()) {
                return length - 1;
            }
        }
        return STREET.matcher(text).matches() ? NONE : text.length();
    }

    private static void p04_whateverCameBehindIt() {
        DUE.sentence(4, "whatever came behind it (its length set aside);");
        for (int place = 0; place <= 42; place++) {
            MorningBill bill = written(LONGEST.substring(0, place));
            bill.write('Z');
            DUE.is("fault() with Z at " + place, bill.fault(), place);
            for (int length = place + 1; length < 48; length++) {
                bill.write(length < LONGEST.length() ? LONGEST.charAt(length) : 'N');
            }
            DUE.is("fault() with Z at " + place + ", filled up", bill.fault(), place);
            DUE.is("count(0)", bill.count(0), 48);
        }
    }

    private static void p04_itsLengthIfOnlyNotAtItsEnd() {
        DUE.sentence(4, "its length, if it is only not at its end;");
        for (int length = 0; length < LONGEST.length(); length++) {
            boolean atAnEnd = length >= 4 && (length <= 12 || (length - 12) % 5 == 0);
            faultIs(LONGEST.substring(0, length), atAnEnd ? NONE : length);
        }
        faultIs("", 0);
        faultIs("S010N", 5);
        faultIs("S010" + NOSE + "N", 10);
    }

    private static void p04_noneNone() {
        DUE.sentence(4, "NONE: none.");
        faultIs("S010", NONE);
        faultIs("S999", NONE);
        faultIs("S010N0100", NONE);
        faultIs("S010N9993", NONE);
        faultIs(LONGEST, NONE);
    }

    // ---- street

    private static void p05_textIsTheStreet() {
        DUE.sentence(5, "THE TEXT is THE STREET");
        MorningBill bill = Due.street(LONGEST);
        DUE.is("wind(7)", bill.wind(7), 0);
        DUE.is("nose(5, 0)", bill.nose(5, 0), 9);
        Due.write(bill, "S753W" + "N4321");
        DUE.is("wind(0): only written, not yet THE STREET", bill.wind(0), 1);
        DUE.is("street()", bill.street(), 11);
        int[] due = {10, 1, 1, 7, 5, 3};
        for (int what = 0; what < due.length; what++) {
            DUE.is("count(" + what + ")", bill.count(what), due[what]);
        }
        DUE.is("wind(0)", bill.wind(0), -1);
        DUE.is("wind(1): of the old street none is left", bill.wind(1), NONE);
        DUE.is("nose(0, 3)", bill.nose(0, 3), 1);
        DUE.is("nose(1, 0): of the old street none is left", bill.nose(1, 0), UNKNOWN);
        Due.write(bill, "S010");
        DUE.is("street() of the shortest", bill.street(), 0);
        DUE.is("wind(0)", bill.wind(0), NONE);
        DUE.is("nose(0, 0)", bill.nose(0, 0), UNKNOWN);
        DUE.is("hour(true)", bill.hour(true), STATE);
    }

    private static void p05_rowOfActsIsEmpty() {
        DUE.sentence(5, "(THE ROW of ACTS is empty,");
        MorningBill bill = Due.street("S332--------");
        for (int act = 0; act < 14; act++) {
            bill.chimney(act % 10);
        }
        DUE.is("count(9)", bill.count(9), 14);
        DUE.is("street()", bill.street(), 80);
        DUE.is("count(9)", bill.count(9), 0);
        DUE.is("undo()", bill.undo(), STATE);
        bill.chimney(3);
        DUE.is("undo() of one act", bill.undo(), 0);
        DUE.is("count(7)", bill.count(7), 0);
        DUE.is("undo() of none", bill.undo(), STATE);
    }

    private static void p05_whatWasKeptIsGone() {
        DUE.sentence(5, "what was kept is gone;");
        MorningBill bill = Due.street("S332--------", "1");
        bill.keep(0);
        bill.keep(1);
        bill.street();
        DUE.is("again(0)", bill.again(0), STATE);
        DUE.is("again(1)", bill.again(1), STATE);
        DUE.is("keep(1) anew", bill.keep(1), 0);
        DUE.is("again(0) still", bill.again(0), STATE);
        DUE.is("again(1)", bill.again(1), 0);
    }

    private static void p05_seenAndSeedStay() {
        DUE.sentence(5, "what is SEEN, THE SEED stay):");
        MorningBill bill = Due.street("S010--N0110");
        for (int size = 0; size < 6; size++) {
            bill.see(0, size, size == 0);
        }
        bill.seed(Long.MIN_VALUE);
        DUE.is("street()", bill.street(), 21);
        DUE.is("count(10)", bill.count(10), 6);
        DUE.is("when(0)", bill.when(0), 1);
        DUE.is("when(1)", bill.when(1), 1);
        DUE.is("see()", bill.see(0, 0, true), FULL);
        DUE.is("seed(0)", bill.seed(0), Long.MIN_VALUE);
    }

    private static void p05_madeAnew() {
        DUE.sentence(5, "THE HOUR is 0, there is no smell, there are no CHIMNEYS, no PENNIES, when THE STREET is"
            + " made anew.");
        for (int baker = 0; baker < 10; baker++) {
            String text = "S" + baker + "91--------N" + baker + "190";
            MorningBill bill = Due.street(text, "1111111");
            for (int cell = 0; cell < 10; cell++) {
                bill.chimney(cell);
            }
            DUE.is("count(7)", bill.count(7), 1023);
            DUE.is("smell(" + baker + ")", bill.smell(baker), 57);
            DUE.is("pennies()", bill.pennies(), 56);
            DUE.is("street()", bill.street(), 81);
            DUE.is("count(6)", bill.count(6), 0);
            for (int cell = 0; cell < 10; cell++) {
                DUE.is("smell(" + cell + ")", bill.smell(cell), 0);
            }
            DUE.is("count(7)", bill.count(7), 0);
            DUE.is("pennies()", bill.pennies(), 0);
            DUE.is("count(8)", bill.count(8), 0);
            String difference = Future.difference(Due.street(text), bill);
            DUE.holds("it is another than one made at first: " + difference, difference.isEmpty());
        }
    }

    private static void p05_tenTimesWindsAndNoses() {
        DUE.sentence(5, "10 times WINDS, and NOSES.");
        DUE.is("street(): none of both", written("S010").street(), 0);
        DUE.is("street(): winds alone", written("S010--------").street(), 80);
        DUE.is("street(): noses alone", written("S010" + LONGEST.substring(12)).street(), 6);
        DUE.is("street(): all of both", written(LONGEST).street(), 86);
        DUE.is("street(): one of both", written("S010-N0100").street(), 11);
    }

    private static void p05_stateAFault() {
        DUE.sentence(5, "STATE: a FAULT.");
        String[] faults = {"", "S", "S01", "T010", "S:10", "S000", "S01:", "S010X", "S010N", "S010N010", "S010N0004",
            "S010N0104", "S010---------", LONGEST + "N", LONGEST.substring(0, 41), LONGEST + "NNNNNN"};
        for (String text : faults) {
            MorningBill bill = Due.street("S743E");
            Due.write(bill, text);
            DUE.is("street() of '" + text + "'", bill.street(), STATE);
            DUE.is("count(3) of the street before", bill.count(3), 7);
        }
    }

    // ---- smell, wind, nose, pennies

    private static void p06_cells0To9() {
        DUE.sentence(6, "CELLS are 0 to 9 in a row (9 is east).");
        MorningBill bill = Due.street("S090-EEEEEEE", "1");
        for (int cell = 0; cell <= 7; cell++) {
            DUE.is("smell(" + cell + ")", bill.smell(cell), 9 - cell);
            bill.hour(false);
        }
        bill = Due.street("S990-WWWWWWW", "1");
        for (int cell = 9; cell >= 2; cell--) {
            DUE.is("smell(" + cell + ")", bill.smell(cell), cell);
            bill.hour(false);
        }
    }

    private static void p06_howStrong() {
        DUE.sentence(6, "How strong it is at a CELL.");
        DUE.is("smell(0) of none", new MorningBill().smell(0), 0);
        DUE.is("smell(9) of none", new MorningBill().smell(9), 0);
        DUE.is("smell(0), the weakest", Due.street("S010-", "1").smell(0), 1);
        DUE.is("smell(9), the strongest", Due.street("S990--------", "11111111").smell(9), 65);
        DUE.is("smell(8) beside it", Due.street("S990--------", "11111111").smell(8), 0);
    }

    private static void p06_outside() {
        DUE.sentence(6, "How strong it is at a CELL. OUTSIDE.");
        MorningBill bill = Due.street("S990-", "1");
        int[] outside = {-1, 10, 11, -10, MIN, MAX};
        for (int cell : outside) {
            DUE.is("smell(" + cell + ")", bill.smell(cell), OUTSIDE);
        }
        DUE.is("smell(9)", bill.smell(9), 9);
        DUE.is("smell(0)", bill.smell(0), 0);
    }

    private static void p07_windOfAnHour() {
        DUE.sentence(7, "The WIND of an HOUR (1 E, -1 W, 0 none);");
        MorningBill bill = Due.street("S010EW-WE--W");
        int[] due = {1, -1, 0, -1, 1, 0, 0, -1};
        for (int hour = 0; hour < 8; hour++) {
            DUE.is("wind(" + hour + ")", bill.wind(hour), due[hour]);
        }
        while (bill.hour(true) != STATE) {
            DUE.is("wind(0) when it has gone", bill.wind(0), 1);
            DUE.is("wind(7)", bill.wind(7), -1);
        }
    }

    private static void p07_noneNotSoMany() {
        DUE.sentence(7, "NONE: there are not so many.");
        for (int winds = 0; winds <= 8; winds++) {
            MorningBill bill = Due.street("S010" + "EEEEEEEE".substring(0, winds));
            for (int hour = 0; hour < winds; hour++) {
                DUE.is("wind(" + hour + ") of " + winds, bill.wind(hour), 1);
            }
            int[] none = {winds, winds + 1, 8, 9, -1, MIN, MAX};
            for (int hour : none) {
                DUE.is("wind(" + hour + ") of " + winds, bill.wind(hour), NONE);
            }
        }
    }

    private static void p08_whatOfANose() {
        DUE.sentence(8, "Of a NOSE its CELL (what = 0), how strong it wants it (1), PENNIES (2), CONTRACT (3),");
        MorningBill bill = Due.street("S510N0100N9993N1230N8761N4512N5493");
        int[][] due = {{0, 1, 0, 0}, {9, 9, 9, 3}, {1, 2, 3, 0}, {8, 7, 6, 1}, {4, 5, 1, 2}, {5, 4, 9, 3}};
        for (int nose = 0; nose < 6; nose++) {
            for (int what = 0; what < 4; what++) {
                DUE.is("nose(" + nose + ", " + what + ")", bill.nose(nose, what), due[nose][what]);
            }
        }
    }

    private static void p08_numberedAsTheyAreTold() {
        DUE.sentence(8, "numbered as they are told (6 at most)");
        MorningBill bill = Due.street("S510-N5110N4110N3110N2110N1110N0110");
        for (int nose = 0; nose < 6; nose++) {
            DUE.is("nose(" + nose + ", 0)", bill.nose(nose, 0), 5 - nose);
        }
        DUE.is("hour(true): only the first one", bill.hour(true), 1);
        bill = Due.street("S010-N5110N4110N3110N2110N1110N0110");
        DUE.is("hour(true): only the last one", bill.hour(true), 32);
    }

    private static void p08_hasItNow() {
        DUE.sentence(8, "1 if it has it now, 0 (4).");
        for (int wants = 1; wants <= 9; wants++) {
            String nose = "N5" + wants + "10";
            DUE.is("nose(0, 4) before", Due.street("S590-" + nose).nose(0, 4), 0);
            for (int strength = 1; strength <= 9; strength++) {
                MorningBill bill = Due.street("S5" + strength + "0-" + nose, "1");
                DUE.is("nose(0, 4), " + strength + " for " + wants, bill.nose(0, 4), strength >= wants ? 1 : 0);
            }
        }
        MorningBill bill = Due.street("S590--N5910", "10");
        DUE.is("nose(0, 4), thinned", bill.nose(0, 4), 0);
        bill.undo();
        DUE.is("nose(0, 4), undone", bill.nose(0, 4), 1);
        bill.chimney(5);
        DUE.is("nose(0, 4), a chimney takes nothing before an hour", bill.nose(0, 4), 1);
    }

    private static void p08_unknown() {
        DUE.sentence(8, "UNKNOWN (there is no such NOSE, SLOT),");
        String noses = LONGEST.substring(12);
        for (int count = 0; count <= 6; count++) {
            MorningBill bill = Due.street("S010" + noses.substring(0, 5 * count));
            int[] unknown = {-1, count, count + 1, 6, MIN, MAX};
            for (int nose : unknown) {
                for (int what = 0; what < 5; what++) {
                    DUE.is("nose(" + nose + ", " + what + ") of " + count, bill.nose(nose, what), UNKNOWN);
                }
            }
            if (count > 0) {
                DUE.is("nose(" + (count - 1) + ", 3)", bill.nose(count - 1, 3), count == 6 ? 3 : 0);
            }
        }
    }

    private static void p08_outside() {
        DUE.sentence(8, "UNKNOWN; OUTSIDE.");
        MorningBill bill = Due.street(LONGEST);
        int[] outside = {-1, 5, 6, MIN, MAX};
        for (int nose = 0; nose < 6; nose++) {
            for (int what : outside) {
                DUE.is("nose(" + nose + ", " + what + ")", bill.nose(nose, what), OUTSIDE);
            }
        }
    }

    private static void p09_penniesSoFar() {
        DUE.sentence(9, "PENNIES so far.");
        String winds = "EEEEEEEE";
        DUE.is("pennies() at first", new MorningBill().pennies(), 0);
        String pays = "N0190N0190N0190N0192N0192N0192";
        DUE.is("pennies(), the most", Due.street("S090" + winds + pays, "11111111").pennies(), 8 * 6 * 9);
        String gets = "N0193N0193N0193N9191N9191N9191";
        DUE.is("pennies(), the least", Due.street("S099" + winds + gets, "11111111").pennies(), -8 * (6 * 9 + 9));
        MorningBill bill = Due.street("S013--N0130N0143", "1");
        DUE.is("pennies() below none", bill.pennies(), -4);
        bill.hour(false);
        DUE.is("pennies() after an idle hour", bill.pennies(), -4);
    }
}
