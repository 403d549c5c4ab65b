/** Promises 20 to 22: see, unsee, when. */
public final class SeenTest {
    private static final Due DUE = new Due("SeenTest");
    private static final int NONE = -99;

    public static void main(String[] args) {
        sights();
        plansThatFit();
        noneFits();
        fromTheBeginning();
        notLookedAt();
        DUE.end();
    }

    private static void whenIs(MorningBill bill, int plans, int all, int none) {
        DUE.is("when(0)", bill.when(0), plans);
        DUE.is("when(1)", bill.when(1), all);
        DUE.is("when(2)", bill.when(2), none);
    }

    private static void sights() {
        MorningBill bill = Due.street("S020--N0110");
        DUE.is("see(1, 8, true)", bill.see(1, 8, true), -1);
        DUE.is("see(-1, 0, true)", bill.see(-1, 0, true), -1);
        DUE.is("see(MAX, 0, true)", bill.see(Integer.MAX_VALUE, 0, true), -1);
        DUE.is("see(0, 8, true)", bill.see(0, 8, true), -2);
        DUE.is("see(0, -1, true)", bill.see(0, -1, true), -2);
        DUE.is("see(0, MIN, true)", bill.see(0, Integer.MIN_VALUE, true), -2);
        DUE.is("count(10)", bill.count(10), 0);
        for (int size = 1; size <= 6; size++) {
            DUE.is("see to " + size, bill.see(0, size + 1, size % 2 == 0), size);
        }
        DUE.is("see when full", bill.see(0, 0, true), -4);
        DUE.is("see(0, 8, true) when full", bill.see(0, 8, true), -2);
        DUE.is("see(1, 0, true) when full", bill.see(1, 0, true), -1);
        DUE.is("count(10)", bill.count(10), 6);
        DUE.is("unsee()", bill.unsee(), 6);
        DUE.is("unsee() again", bill.unsee(), 0);
        DUE.is("count(10)", bill.count(10), 0);
        DUE.is("see after that", bill.see(0, 0, true), 1);
    }

    private static void plansThatFit() {
        MorningBill bill = Due.street("S020--N0110");
        whenIs(bill, 4, 0, 0);
        bill.see(0, 1, true);
        whenIs(bill, 3, 0, 0);
        bill.see(0, 0, false);
        whenIs(bill, 1, 2, 1);
        bill.unsee();
        bill.see(0, 0, true);
        whenIs(bill, 2, 1, 0);
        bill.unsee();
        bill.see(0, 1, false);
        whenIs(bill, 1, 0, 3);
        DUE.is("when(-1)", bill.when(-1), -2);
        DUE.is("when(3)", bill.when(3), -2);
        DUE.is("when(MIN)", bill.when(Integer.MIN_VALUE), -2);
        DUE.is("when(MAX)", bill.when(Integer.MAX_VALUE), -2);
    }

    private static void noneFits() {
        MorningBill bill = Due.street("S020--N0110");
        bill.see(0, 0, true);
        bill.see(0, 0, false);
        whenIs(bill, 0, NONE, NONE);
        whenIs(new MorningBill(), 1, 0, 0);
        whenIs(Due.street("S010EEEEEEEE"), 256, 0, 0);
    }

    private static void fromTheBeginning() {
        MorningBill bill = Due.street("S020--N0110");
        bill.see(0, 1, true);
        bill.hour(false);
        bill.chimney(0);
        bill.hour(false);
        whenIs(bill, 3, 0, 0);
        DUE.is("THE HOUR stays", bill.count(6), 2);
        DUE.is("CHIMNEYS stay", bill.count(7), 1);
    }

    private static void notLookedAt() {
        MorningBill bill = Due.street("S020---N0110N0110");
        bill.see(1, 0, true);
        bill.see(0, 2, true);
        bill.see(0, 7, true);
        whenIs(bill, 3, 1, 0);
        Due.write(bill, "S020--N0110");
        bill.street();
        DUE.is("SEEN stays", bill.count(10), 3);
        whenIs(bill, 4, 0, 0);
        Due.write(bill, "S020---N0110");
        bill.street();
        whenIs(bill, 6, 0, 0);
        Due.write(bill, "S010");
        bill.street();
        whenIs(bill, 1, 0, 0);
    }
}
