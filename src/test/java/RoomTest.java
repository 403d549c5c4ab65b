import java.lang.management.ManagementFactory;

/** All calls of a run live in one room: an object makes its rows once, and no call makes more. */
public final class RoomTest {
    private static final Due DUE = new Due("RoomTest");
    private static final com.sun.management.ThreadMXBean THREADS =
            (com.sun.management.ThreadMXBean) ManagementFactory.getThreadMXBean();

    /** The measuring itself makes a few bytes once; one object a round would be this many times as much. */
    private static final int ROUNDS = 100;
    private static final int SMALLEST_OBJECT = 16;
    private static final String STREET = "S595EEW-EWE-N5350N4290N6181N3270N7153N2162";

    public static void main(String[] args) {
        if (!THREADS.isThreadAllocatedMemorySupported()) {
            System.out.println("RoomTest: this machine can't tell what is made");
            return;
        }
        allCalls(Due.street(STREET));
        MorningBill[] bills = new MorningBill[ROUNDS];
        for (int round = 0; round < ROUNDS; round++) {
            bills[round] = Due.street(STREET);
        }
        long before = made();
        long nothing = made() - before;
        before = made();
        for (MorningBill each : bills) {
            allCalls(each);
        }
        long calls = made() - before - nothing;
        DUE.holds("no call makes an object: " + calls + " bytes", calls < ROUNDS * SMALLEST_OBJECT);
        before = made();
        MorningBill bill = new MorningBill();
        long one = made() - before - nothing;
        DUE.holds("a new object is small: " + one + " bytes", one > 0 && one < 20000);
        DUE.is("it is new", bill.count(6), 0);
        DUE.end();
    }

    private static long made() {
        return THREADS.getThreadAllocatedBytes(Thread.currentThread().getId());
    }

    private static void allCalls(MorningBill bill) {
        bill.hour(true);
        bill.chimney(3);
        bill.undo();
        bill.by(77);
        bill.best(true);
        bill.best(false);
        bill.bestChimney();
        bill.share(2, true);
        bill.judge(5, 10101);
        bill.had(9);
        bill.only(5);
        bill.see(1, 1, true);
        bill.when(1);
        bill.unsee();
        bill.mean(5, 3, true);
        bill.fair(1, 5, 3, true);
        bill.bakers(4, 0);
        bill.seed(8);
        bill.mornings(20);
        bill.keep(0);
        bill.again(0);
        for (int what = 0; what < 11; what++) {
            bill.count(what);
        }
        bill.smell(3);
        bill.wind(3);
        bill.nose(3, 4);
        bill.pennies();
        bill.write('X');
        bill.fault();
        bill.wipe();
        Due.write(bill, STREET);
        bill.street();
    }
}
