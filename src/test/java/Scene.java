import java.util.List;
import java.util.Random;

/** Objects in all kinds of states, each made anew: what is refused or asked must leave every one as it is. */
enum Scene {
    /** As it is made. */
    NEW,
    /** A text that lacks one letter of a street; the street is the first one. */
    HALF_WRITTEN,
    /** In the midst of it, all kinds of things told and kept. */
    MORNING,
    /** No hour is left. */
    EVENING,
    /** The text, the row of acts, what is seen and the slots are full. */
    FULL;

    /** The longest street that there is. */
    static final String STREET = "S332EW-EEW-WN3150N4231N2172N5113N3590N0222";

    MorningBill make() {
        switch (this) {
            case HALF_WRITTEN:
                return halfWritten();
            case MORNING:
                return morning();
            case EVENING:
                return evening();
            case FULL:
                return full();
            default:
                return new MorningBill();
        }
    }

    int noses() {
        return this == NEW || this == HALF_WRITTEN ? 0 : 6;
    }

    boolean hasNoses() {
        return noses() > 0;
    }

    boolean hasHoursLeft() {
        return this == MORNING || this == FULL;
    }

    static List<Scene> all() {
        return List.of(values());
    }

    /** One of many streets with little at stake, so that many plans are like: each number has its own. */
    static String smallStreet(int number) {
        Random chance = new Random(number);
        StringBuilder text = new StringBuilder("S").append(3 + chance.nextInt(3));
        text.append(1 + chance.nextInt(4)).append(chance.nextInt(3));
        int winds = 2 + chance.nextInt(5);
        for (int hour = 0; hour < winds; hour++) {
            text.append("EW-".charAt(chance.nextInt(3)));
        }
        int noses = 1 + chance.nextInt(3);
        for (int nose = 0; nose < noses; nose++) {
            text.append('N').append(3 + chance.nextInt(3)).append(1 + chance.nextInt(3));
            text.append(chance.nextInt(4)).append(chance.nextInt(4));
        }
        return text.toString();
    }

    private static MorningBill halfWritten() {
        MorningBill bill = new MorningBill();
        Due.write(bill, "S743EW-N123");
        bill.seed(7);
        return bill;
    }

    private static MorningBill morning() {
        MorningBill bill = Due.street(STREET);
        bill.hour(true);
        bill.chimney(4);
        bill.hour(false);
        bill.keep(0);
        bill.chimney(4);
        bill.hour(true);
        bill.chimney(7);
        bill.see(0, 0, true);
        bill.see(1, 2, false);
        bill.seed(12345);
        return bill;
    }

    private static MorningBill evening() {
        MorningBill bill = Due.street(STREET, "1011011");
        bill.chimney(6);
        bill.keep(1);
        bill.hour(true);
        bill.see(4, 7, false);
        bill.seed(-9);
        return bill;
    }

    private static MorningBill full() {
        MorningBill bill = Due.street(STREET, "10");
        bill.keep(1);
        bill.hour(true);
        for (int act = 0; act < 13; act++) {
            bill.chimney(act * 3 % 10);
        }
        bill.hour(true);
        bill.keep(0);
        for (int size = 0; size < 6; size++) {
            bill.see(size, size, size % 2 == 0);
        }
        for (int length = STREET.length(); length < 48; length++) {
            bill.write('N');
        }
        bill.seed(Long.MIN_VALUE);
        return bill;
    }
}
