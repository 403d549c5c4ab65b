/** Promises 10 to 12: hour, chimney, undo. */
public final class ActsTest {
    private static final Due DUE = new Due("ActsTest");

    public static void main(String[] args) {
        smellGoesByTheWind();
        smellLeavesTheStreet();
        smellAddsUp();
        contracts();
        costs();
        noHourLeft();
        chimneys();
        chimneysTakeOnlyInAnHour();
        undone();
        theFirstActsAreForgotten();
        refusedActsAreNoActs();
        DUE.end();
    }

    private static void smellsAre(String when, MorningBill bill, int... due) {
        for (int cell = 0; cell < 10; cell++) {
            DUE.is(when + ": smell(" + cell + ")", bill.smell(cell), due[cell]);
        }
    }

    private static void smellGoesByTheWind() {
        MorningBill bill = Due.street("S430EEWW-N4310N5220N6130N4111");
        DUE.is("hour 0", bill.hour(true), 1 | 8);
        smellsAre("baked under E, it is not moved", bill, 0, 0, 0, 0, 3, 0, 0, 0, 0, 0);
        DUE.is("hour 1", bill.hour(false), 2);
        smellsAre("E", bill, 0, 0, 0, 0, 0, 2, 0, 0, 0, 0);
        DUE.is("hour 2", bill.hour(true), 1 | 8);
        smellsAre("W and baked", bill, 0, 0, 0, 0, 4, 0, 0, 0, 0, 0);
        DUE.is("hour 3", bill.hour(false), 0);
        smellsAre("W", bill, 0, 0, 0, 3, 0, 0, 0, 0, 0, 0);
        DUE.is("hour 4", bill.hour(false), 0);
        smellsAre("none", bill, 0, 0, 0, 2, 0, 0, 0, 0, 0, 0);
        DUE.is("THE HOUR", bill.count(6), 5);
    }

    private static void smellLeavesTheStreet() {
        MorningBill east = Due.street("S990-EW");
        east.hour(true);
        east.hour(false);
        smellsAre("beyond 9", east, 0, 0, 0, 0, 0, 0, 0, 0, 0, 0);
        east.hour(false);
        smellsAre("it does not come back", east, 0, 0, 0, 0, 0, 0, 0, 0, 0, 0);
        MorningBill west = Due.street("S090-WE");
        west.hour(true);
        west.hour(false);
        smellsAre("beyond 0", west, 0, 0, 0, 0, 0, 0, 0, 0, 0, 0);
    }

    private static void smellAddsUp() {
        MorningBill bill = Due.street("S590--------");
        int due = 0;
        for (int hour = 0; hour < 8; hour++) {
            bill.hour(true);
            due = Math.max(due - 1, 0) + 9;
            DUE.is("smell after " + hour, bill.smell(5), due);
        }
        DUE.is("smell at last", bill.smell(5), 65);
        MorningBill thin = Due.street("S510--");
        thin.hour(true);
        thin.hour(false);
        DUE.is("1 thins to 0", thin.smell(5), 0);
    }

    private static void contracts() {
        comesIn("BY THE HOUR", "N0130", 3, 0, 3);
        comesIn("IN ADVANCE", "N0131", 0, -3, 0);
        comesIn("BY EAST WIND", "N0132", 0, 0, 3);
        comesIn("SENT BACK", "N0133", -3, 0, -3);
    }

    /** Baked under no wind, idle under W, baked under E. */
    private static void comesIn(String contract, String nose, int... due) {
        MorningBill bill = Due.street("S010-WE" + nose);
        int sum = 0;
        for (int hour = 0; hour < 3; hour++) {
            DUE.is(contract + ", hour " + hour, bill.hour(hour != 1), hour != 1 ? 1 : 0);
            sum += due[hour];
            DUE.is(contract + ", pennies after " + hour, bill.pennies(), sum);
        }
    }

    private static void costs() {
        MorningBill bill = Due.street("S017--");
        bill.hour(true);
        DUE.is("BAKED costs", bill.pennies(), -7);
        bill.hour(false);
        DUE.is("IDLE costs nothing", bill.pennies(), -7);
    }

    private static void noHourLeft() {
        MorningBill bill = Due.street("S012E");
        DUE.is("hour 0", bill.hour(true), 0);
        String before = Due.state(bill);
        DUE.is("hour(true)", bill.hour(true), -3);
        DUE.is("hour(false)", bill.hour(false), -3);
        DUE.is("chimney(0)", bill.chimney(0), -3);
        DUE.is("chimney(10)", bill.chimney(10), -2);
        DUE.holds("nothing is changed", before.equals(Due.state(bill)));
    }

    private static void chimneys() {
        MorningBill bill = Due.street("S550EEE");
        for (int cell = 0; cell < 10; cell++) {
            DUE.is("chimney(" + cell + ") built", bill.chimney(cell), 1);
            DUE.is("CHIMNEYS", bill.count(7), (2 << cell) - 1);
        }
        for (int cell = 0; cell < 10; cell++) {
            DUE.is("chimney(" + cell + ") torn down", bill.chimney(cell), 0);
        }
        DUE.is("no CHIMNEYS", bill.count(7), 0);
        DUE.is("chimney(-1)", bill.chimney(-1), -2);
        DUE.is("chimney(10)", bill.chimney(10), -2);
        DUE.is("chimney(MIN)", bill.chimney(Integer.MIN_VALUE), -2);
        DUE.is("chimney(MAX)", bill.chimney(Integer.MAX_VALUE), -2);
    }

    private static void chimneysTakeOnlyInAnHour() {
        MorningBill bill = Due.street("S551-EE-N6110");
        bill.chimney(5);
        DUE.is("baked at a chimney", bill.hour(true), 0);
        DUE.is("there is none", bill.smell(5), 0);
        DUE.is("it costs all the same", bill.pennies(), -1);
        bill.chimney(5);
        bill.hour(true);
        DUE.is("torn down", bill.smell(5), 5);
        bill.chimney(5);
        DUE.is("built: the smell is still there", bill.smell(5), 5);
        DUE.is("it goes on from there", bill.hour(true), 1);
        DUE.is("smell(5)", bill.smell(5), 0);
        DUE.is("smell(6)", bill.smell(6), 4);
        bill.chimney(6);
        DUE.is("a chimney at the nose", bill.hour(false), 0);
        DUE.is("smell(6) under a chimney", bill.smell(6), 0);
    }

    private static void undone() {
        MorningBill bill = Due.street("S530EW-N5240");
        String first = Due.state(bill);
        DUE.is("undo() with no act", bill.undo(), -3);
        bill.hour(true);
        String second = Due.state(bill);
        bill.chimney(4);
        String third = Due.state(bill);
        bill.hour(false);
        DUE.is("ACTS", bill.count(9), 3);
        DUE.is("undo()", bill.undo(), 2);
        DUE.holds("the hour is undone", third.equals(Due.state(bill)));
        DUE.is("undo()", bill.undo(), 1);
        DUE.holds("the chimney is undone", second.equals(Due.state(bill)));
        DUE.is("undo()", bill.undo(), 0);
        DUE.holds("all is undone", first.equals(Due.state(bill)));
        DUE.is("undo() with none left", bill.undo(), -3);
        DUE.is("an hour after that", bill.hour(true), 1);
        DUE.is("ACTS", bill.count(9), 1);
    }

    private static void theFirstActsAreForgotten() {
        MorningBill bill = Due.street("S530E");
        for (int act = 1; act <= 17; act++) {
            bill.chimney(act % 10);
            DUE.is("ACTS after " + act, bill.count(9), Math.min(act, 14));
        }
        for (int left = 13; left >= 0; left--) {
            DUE.is("undo() to " + left, bill.undo(), left);
        }
        DUE.is("undo() beyond", bill.undo(), -3);
        DUE.is("the first three acts stay", bill.count(7), 2 | 4 | 8);
    }

    private static void refusedActsAreNoActs() {
        MorningBill bill = Due.street("S530E");
        bill.chimney(10);
        bill.chimney(-1);
        DUE.is("ACTS", bill.count(9), 0);
        bill.hour(true);
        bill.hour(true);
        bill.chimney(0);
        DUE.is("ACTS", bill.count(9), 1);
    }
}
