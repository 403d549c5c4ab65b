/**
 * Promises 28 to 30 at their edges: one test for each sentence that names a boundary. A test's name begins with
 * the promise's number, the sentence is told in its first line.
 */
public final class EdgesSlotsTest {
    private static final Due DUE = new Due("EdgesSlotsTest");
    private static final int UNKNOWN = -1;
    private static final int OUTSIDE = -2;
    private static final int STATE = -3;
    private static final int MIN = Integer.MIN_VALUE;
    private static final int MAX = Integer.MAX_VALUE;

    public static void main(String[] args) {
        p28_slots0To1();
        p28_smellsChimneysPenniesTheHour();
        p28_theyAreKept();
        p28_unknown();
        p29_asTheyWereKept();
        p29_rowOfActsIsEmpty();
        p29_unknown();
        p29_stateNoneWereKept();
        p30_lettersOfTheText();
        p30_winds();
        p30_noses();
        p30_bakerStrengthCost();
        p30_theHour();
        p30_chimneys();
        p30_whoHasItNow();
        p30_actsInTheRow();
        p30_seen();
        p30_outside();
        DUE.end();
    }

    // ---- keep

    private static void p28_slots0To1() {
        DUE.sentence(28, "SLOTS 0 to 1");
        MorningBill bill = Due.street("S090--------", "1");
        DUE.is("keep(0)", bill.keep(0), 1);
        bill.hour(true);
        DUE.is("keep(1)", bill.keep(1), 2);
        bill.hour(true);
        DUE.is("again(0)", bill.again(0), 1);
        DUE.is("smell(0) of 0", bill.smell(0), 9);
        DUE.is("again(1)", bill.again(1), 2);
        DUE.is("smell(0) of 1", bill.smell(0), 17);
        DUE.is("keep(-1)", bill.keep(-1), UNKNOWN);
        DUE.is("keep(2)", bill.keep(2), UNKNOWN);
        DUE.is("again(0) still", bill.again(0), 1);
        DUE.is("again(1) still", bill.again(1), 2);
    }

    private static void p28_smellsChimneysPenniesTheHour() {
        DUE.sentence(28, "keep smells, CHIMNEYS, PENNIES, THE HOUR");
        MorningBill bill = Due.street("S092-EEEEEEEN0190", "11");
        bill.chimney(0);
        bill.chimney(9);
        bill.keep(0);
        bill.seed(3);
        bill.see(0, 0, true);
        bill.write('X');
        bill.hour(true);
        bill.chimney(5);
        DUE.is("again(0)", bill.again(0), 2);
        DUE.is("count(6)", bill.count(6), 2);
        DUE.is("count(7)", bill.count(7), 513);
        DUE.is("pennies()", bill.pennies(), 14);
        DUE.is("smell(0)", bill.smell(0), 9);
        DUE.is("smell(1)", bill.smell(1), 8);
        DUE.is("smell(2)", bill.smell(2), 0);
        DUE.is("seed(): THE SEED is not kept", bill.seed(0), 3);
        DUE.is("count(10): what is SEEN is not kept", bill.count(10), 1);
        DUE.is("count(0): THE TEXT is not kept", bill.count(0), 18);
    }

    private static void p28_theyAreKept() {
        DUE.sentence(28, "They are kept: THE HOUR.");
        DUE.is("keep(0) of a new object", new MorningBill().keep(0), 0);
        DUE.is("keep(1) of a new object", new MorningBill().keep(1), 0);
        MorningBill bill = Due.street("S090--------");
        for (int hour = 0; hour <= 8; hour++) {
            DUE.is("keep(0)", bill.keep(0), hour);
            DUE.is("keep(1)", bill.keep(1), hour);
            DUE.is("count(9): no act", bill.count(9), hour);
            bill.hour(hour % 2 == 0);
        }
        DUE.is("undo(): the row of acts stays", bill.undo(), 7);
        DUE.is("again(1): what was kept last", bill.again(1), 8);
        DUE.is("hour(): none is left", bill.hour(true), STATE);
        DUE.is("again(0): what was kept last", bill.again(0), 8);
    }

    private static void p28_unknown() {
        DUE.sentence(28, "They are kept: THE HOUR. UNKNOWN.");
        MorningBill bill = Due.street("S090--", "1");
        int[] unknown = {-1, 2, 3, MIN, MAX};
        for (int slot : unknown) {
            DUE.is("keep(" + slot + ")", bill.keep(slot), UNKNOWN);
            DUE.is("again(0): nothing is kept", bill.again(0), STATE);
            DUE.is("again(1): nothing is kept", bill.again(1), STATE);
        }
        DUE.is("keep(1)", bill.keep(1), 1);
        DUE.is("keep(0)", bill.keep(0), 1);
    }

    // ---- again

    private static void p29_asTheyWereKept() {
        DUE.sentence(29, "They are as they were kept: THE HOUR.");
        for (int slot = 0; slot < 2; slot++) {
            MorningBill bill = Due.street("S391EW-EEW--N3150N4231", "101");
            bill.chimney(6);
            bill.keep(slot);
            bill.hour(true);
            bill.chimney(3);
            bill.chimney(6);
            bill.hour(false);
            for (int time = 0; time < 2; time++) {
                DUE.is("again(" + slot + ")", bill.again(slot), 3);
                bill.hour(false);
            }
            bill.again(slot);
            MorningBill kept = Due.street("S391EW-EEW--N3150N4231", "101");
            kept.chimney(6);
            kept.keep(slot);
            kept.again(slot);
            String difference = Future.difference(kept, bill);
            DUE.holds("it is another than it was kept: " + difference, difference.isEmpty());
        }
        MorningBill end = Due.street("S090-", "1");
        end.keep(0);
        end.undo();
        DUE.is("again(0): no hour is left then", end.again(0), 1);
        DUE.is("hour()", end.hour(true), STATE);
        DUE.is("chimney()", end.chimney(0), STATE);
    }

    private static void p29_rowOfActsIsEmpty() {
        DUE.sentence(29, "(THE ROW of ACTS is empty when one goes on).");
        MorningBill bill = Due.street("S090--------");
        bill.keep(0);
        for (int act = 0; act < 14; act++) {
            bill.chimney(act % 10);
        }
        DUE.is("again(0)", bill.again(0), 0);
        DUE.is("count(9)", bill.count(9), 0);
        DUE.is("undo()", bill.undo(), STATE);
        bill.hour(true);
        DUE.is("count(9) of one act", bill.count(9), 1);
        DUE.is("undo() of one act", bill.undo(), 0);
        DUE.is("count(6)", bill.count(6), 0);
        DUE.is("count(7)", bill.count(7), 0);
        for (int act = 0; act < 14; act++) {
            bill.chimney(4);
        }
        DUE.is("count(9) of 14 acts", bill.count(9), 14);
        DUE.is("again(1): refused, the row stays", bill.again(1), STATE);
        DUE.is("again(2): refused, the row stays", bill.again(2), UNKNOWN);
        DUE.is("undo()", bill.undo(), 13);
    }

    private static void p29_unknown() {
        DUE.sentence(29, "UNKNOWN; STATE: none were kept.");
        MorningBill bill = Due.street("S090--", "1");
        bill.keep(0);
        bill.keep(1);
        bill.hour(false);
        int[] unknown = {-1, 2, 3, MIN, MAX};
        for (int slot : unknown) {
            DUE.is("again(" + slot + ")", bill.again(slot), UNKNOWN);
            DUE.is("count(6)", bill.count(6), 2);
        }
        DUE.is("again(1)", bill.again(1), 1);
    }

    private static void p29_stateNoneWereKept() {
        DUE.sentence(29, "STATE: none were kept.");
        DUE.is("again(0) of a new object", new MorningBill().again(0), STATE);
        DUE.is("again(1) of a new object", new MorningBill().again(1), STATE);
        for (int slot = 0; slot < 2; slot++) {
            MorningBill bill = Due.street("S090--", "1");
            bill.keep(slot);
            bill.hour(true);
            DUE.is("again() of the other one", bill.again(1 - slot), STATE);
            DUE.is("count(6)", bill.count(6), 2);
            DUE.is("count(9)", bill.count(9), 2);
            DUE.is("again(" + slot + ")", bill.again(slot), 1);
            bill.street();
            DUE.is("again(" + slot + ") on a street made anew", bill.again(slot), STATE);
        }
    }

    // ---- count

    private static void p30_lettersOfTheText() {
        DUE.sentence(30, "0 letters of THE TEXT,");
        MorningBill bill = new MorningBill();
        for (int length = 0; length <= 48; length++) {
            DUE.is("count(0)", bill.count(0), length);
            bill.write(length);
        }
        DUE.is("count(0) when full", bill.count(0), 48);
        bill.wipe();
        DUE.is("count(0) when wiped", bill.count(0), 0);
    }

    private static void p30_winds() {
        DUE.sentence(30, "1 WINDS,");
        for (int winds = 0; winds <= 8; winds++) {
            DUE.is("count(1)", Due.street("S010" + "EW-EW-EW".substring(0, winds)).count(1), winds);
        }
        DUE.is("count(1): hours that have gone are among them", Due.street("S010EW-", "11").count(1), 3);
    }

    private static void p30_noses() {
        DUE.sentence(30, "2 NOSES,");
        String noses = "N0100N0100N0100N0100N0100N0100";
        for (int count = 0; count <= 6; count++) {
            DUE.is("count(2)", Due.street("S010-" + noses.substring(0, 5 * count)).count(2), count);
        }
    }

    private static void p30_bakerStrengthCost() {
        DUE.sentence(30, "3 BAKER, 4 STRENGTH, 5 COST,");
        for (int figure = 0; figure <= 9; figure++) {
            DUE.is("count(3)", Due.street("S" + figure + "12").count(3), figure);
            DUE.is("count(4)", Due.street("S3" + Math.max(1, figure) + "2").count(4), Math.max(1, figure));
            DUE.is("count(5)", Due.street("S31" + figure).count(5), figure);
        }
        MorningBill bill = Due.street("S789");
        DUE.is("count(3)", bill.count(3), 7);
        DUE.is("count(4)", bill.count(4), 8);
        DUE.is("count(5)", bill.count(5), 9);
    }

    private static void p30_theHour() {
        DUE.sentence(30, "6 THE HOUR,");
        MorningBill bill = Due.street("S010EW-EW-EW");
        for (int hour = 0; hour <= 8; hour++) {
            DUE.is("count(6)", bill.count(6), hour);
            bill.hour(true);
        }
        DUE.is("count(6) at the end", bill.count(6), 8);
    }

    private static void p30_chimneys() {
        DUE.sentence(30, "7 CHIMNEYS (bits),");
        MorningBill bill = Due.street("S010-");
        DUE.is("count(7) of none", bill.count(7), 0);
        for (int cell = 0; cell < 10; cell++) {
            bill.chimney(cell);
            DUE.is("count(7) of one", bill.count(7), 1 << cell);
            bill.undo();
        }
        for (int cell = 0; cell < 10; cell++) {
            bill.chimney(cell);
        }
        DUE.is("count(7) of all", bill.count(7), 1023);
        bill.hour(true);
        DUE.is("count(7): they stay", bill.count(7), 1023);
    }

    private static void p30_whoHasItNow() {
        DUE.sentence(30, "8 who has it now (bits),");
        String six = "N0910N0810N0710N0610N0510N0410";
        MorningBill bill = Due.street("S090--------" + six);
        DUE.is("count(8) before", bill.count(8), 0);
        bill.hour(true);
        int[] due = {63, 62, 60, 56, 48, 32, 0};
        for (int who : due) {
            DUE.is("count(8)", bill.count(8), who);
            bill.hour(false);
        }
        bill.undo();
        bill.undo();
        DUE.is("count(8) undone", bill.count(8), 32);
        bill.chimney(0);
        DUE.is("count(8): a chimney takes nothing before an hour", bill.count(8), 32);
        DUE.is("count(8) at the end", Due.street("S010-N0110", "1").count(8), 1);
    }

    private static void p30_actsInTheRow() {
        DUE.sentence(30, "9 ACTS in the row,");
        MorningBill bill = Due.street("S010-");
        for (int act = 0; act <= 16; act++) {
            DUE.is("count(9)", bill.count(9), Math.min(act, 14));
            bill.chimney(0);
        }
        bill.undo();
        DUE.is("count(9) undone", bill.count(9), 13);
    }

    private static void p30_seen() {
        DUE.sentence(30, "10 SEEN.");
        MorningBill bill = Due.street("S010-N0110");
        for (int size = 0; size <= 7; size++) {
            DUE.is("count(10)", bill.count(10), Math.min(size, 6));
            bill.see(0, 0, true);
        }
        bill.unsee();
        DUE.is("count(10) then", bill.count(10), 0);
    }

    private static void p30_outside() {
        DUE.sentence(30, "10 SEEN. OUTSIDE.");
        for (Scene scene : Scene.all()) {
            MorningBill bill = scene.make();
            int[] outside = {-1, 11, 12, MIN, MAX};
            for (int what : outside) {
                DUE.is(scene + ": count(" + what + ")", bill.count(what), OUTSIDE);
            }
            DUE.is(scene + ": count(0)", bill.count(0), bill.wipe());
            DUE.is(scene + ": count(10)", bill.count(10), bill.unsee());
        }
    }
}
