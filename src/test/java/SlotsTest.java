/** Promises 28 to 30: keep, again, count. */
public final class SlotsTest {
    private static final Due DUE = new Due("SlotsTest");

    public static void main(String[] args) {
        refused();
        keptAndGoneOnFrom();
        onlyWhatIsTold();
        counts();
        DUE.end();
    }

    private static void refused() {
        MorningBill bill = Due.street("S530EW-N5240");
        int[] slots = {-1, 2, Integer.MIN_VALUE, Integer.MAX_VALUE};
        for (int slot : slots) {
            DUE.is("keep(" + slot + ")", bill.keep(slot), -1);
            DUE.is("again(" + slot + ")", bill.again(slot), -1);
        }
        bill.hour(true);
        String before = Due.state(bill);
        DUE.is("again(0)", bill.again(0), -3);
        DUE.is("again(1)", bill.again(1), -3);
        DUE.holds("nothing is changed", before.equals(Due.state(bill)));
        DUE.is("keep(1)", bill.keep(1), 1);
        DUE.is("again(0) still", bill.again(0), -3);
    }

    private static void keptAndGoneOnFrom() {
        MorningBill bill = Due.street("S530EW-N5240");
        bill.hour(true);
        bill.chimney(4);
        DUE.is("keep(0)", bill.keep(0), 1);
        DUE.is("ACTS stay when it is kept", bill.count(9), 2);
        String kept = Due.state(bill);
        bill.hour(false);
        bill.chimney(7);
        DUE.is("keep(1)", bill.keep(1), 2);
        bill.hour(true);
        DUE.is("again(0)", bill.again(0), 1);
        DUE.is("ACTS are none", bill.count(9), 0);
        DUE.is("undo()", bill.undo(), -3);
        DUE.is("smell(5)", bill.smell(5), 3);
        DUE.is("CHIMNEYS", bill.count(7), 16);
        DUE.is("PENNIES", bill.pennies(), 4);
        bill.chimney(4);
        bill.chimney(4);
        DUE.holds("all is as it was kept", kept.equals(Due.state(bill)));
        bill.hour(true);
        DUE.is("again(0) once more", bill.again(0), 1);
        DUE.is("smell(5) once more", bill.smell(5), 3);
        DUE.is("again(1)", bill.again(1), 2);
        DUE.is("CHIMNEYS of 1", bill.count(7), 16 | 128);
        DUE.is("keep(0) over it", bill.keep(0), 2);
        bill.hour(false);
        DUE.is("again(0)", bill.again(0), 2);
    }

    private static void onlyWhatIsTold() {
        MorningBill bill = Due.street("S530EW-N5240");
        bill.keep(0);
        bill.seed(8);
        bill.see(0, 0, true);
        bill.write('X');
        bill.hour(true);
        DUE.is("again(0)", bill.again(0), 0);
        DUE.is("THE SEED stays", bill.seed(0), 8);
        DUE.is("SEEN stays", bill.count(10), 1);
        DUE.is("THE TEXT stays", bill.count(0), 13);
    }

    private static void counts() {
        MorningBill bill = Due.street("S743E-N7440N7550N6330");
        bill.write('E');
        bill.hour(true);
        bill.chimney(0);
        bill.chimney(9);
        bill.see(1, 1, true);
        bill.see(1, 1, false);
        int[] due = {22, 2, 3, 7, 4, 3, 1, 513, 1, 3, 2};
        for (int what = 0; what < due.length; what++) {
            DUE.is("count(" + what + ")", bill.count(what), due[what]);
        }
        int[] outside = {-1, 11, Integer.MIN_VALUE, Integer.MAX_VALUE};
        for (int what : outside) {
            DUE.is("count(" + what + ")", bill.count(what), -2);
        }
        bill.hour(false);
        DUE.is("count(8) when it has thinned", bill.count(8), 0);
    }
}
