/** Promises 1 to 9: a new object, write, wipe, fault, street, smell, wind, nose, pennies. */
public final class StreetTest {
    private static final Due DUE = new Due("StreetTest");
    private static final int NONE = -99;
    private static final String SIX_NOSES = "N0100N0100N0100N0100N0100N0100";

    public static void main(String[] args) {
        newObject();
        writeAndWipe();
        faults();
        streets();
        streetMadeAnew();
        smells();
        winds();
        noses();
        pennies();
        DUE.end();
    }

    private static void newObject() {
        MorningBill bill = new MorningBill();
        for (int what = 0; what <= 10; what++) {
            DUE.is("new: count(" + what + ")", bill.count(what), what == 4 ? 1 : 0);
        }
        for (int cell = 0; cell < 10; cell++) {
            DUE.is("new: smell(" + cell + ")", bill.smell(cell), 0);
        }
        DUE.is("new: wind(0)", bill.wind(0), NONE);
        DUE.is("new: nose(0, 0)", bill.nose(0, 0), -1);
        DUE.is("new: pennies()", bill.pennies(), 0);
        DUE.is("new: fault()", bill.fault(), 0);
        DUE.is("new: seed(1)", bill.seed(1), 0);
        DUE.is("new: hour(true)", bill.hour(true), -3);
    }

    private static void writeAndWipe() {
        MorningBill bill = new MorningBill();
        DUE.is("write(-1)", bill.write(-1), -2);
        DUE.is("write(256)", bill.write(256), -2);
        DUE.is("write(MIN)", bill.write(Integer.MIN_VALUE), -2);
        DUE.is("write(MAX)", bill.write(Integer.MAX_VALUE), -2);
        DUE.is("write(0)", bill.write(0), 1);
        DUE.is("write(255)", bill.write(255), 2);
        for (int length = 3; length <= 48; length++) {
            DUE.is("write to " + length, bill.write('S'), length);
        }
        DUE.is("write when full", bill.write('S'), -4);
        DUE.is("write(256) when full", bill.write(256), -2);
        DUE.is("count(0) when full", bill.count(0), 48);
        DUE.is("wipe()", bill.wipe(), 48);
        DUE.is("wipe() again", bill.wipe(), 0);
        DUE.is("count(0) when wiped", bill.count(0), 0);
        DUE.is("write('S') when wiped", bill.write('S'), 1);
        DUE.is("fault() of S", bill.fault(), 1);
    }

    private static void fault(String text, int due) {
        MorningBill bill = new MorningBill();
        Due.write(bill, text);
        DUE.is("fault() of " + text, bill.fault(), due);
        String before = Due.state(bill);
        if (due != NONE) {
            DUE.is("street() of " + text, bill.street(), -3);
            DUE.holds("street() refused of " + text + " changes nothing", before.equals(Due.state(bill)));
        }
    }

    private static void faults() {
        fault("", 0);
        fault("s", 0);
        fault("T010", 0);
        fault("S", 1);
        fault("S0", 2);
        fault("S01", 3);
        fault("S010", NONE);
        fault("S999", NONE);
        fault("S:10", 1);
        fault("S/10", 1);
        fault("S00", 2);
        fault("S0:", 2);
        fault("S01E", 3);
        fault("S010E", NONE);
        fault("S010W", NONE);
        fault("S010-", NONE);
        fault("S010EW-EW-EW", NONE);
        fault("S010EW-EW-EWE", 12);
        fault("S010EW-EW-EWN", 13);
        fault("S010e", 4);
        fault("S0100", 4);
        fault("S010S", 4);
        fault("S010N", 5);
        fault("S010N0", 6);
        fault("S010N00", 6);
        fault("S010N01", 7);
        fault("S010N010", 8);
        fault("S010N0100", NONE);
        fault("S010N9993", NONE);
        fault("S010N9994", 8);
        fault("S010NE", 5);
        fault("S010N0E", 6);
        fault("S010N01E", 7);
        fault("S010N010E", 8);
        fault("S010N0100E", 9);
        fault("S010N0100N", 10);
        fault("S010" + SIX_NOSES, NONE);
        fault("S010" + SIX_NOSES + "N", 34);
        fault("S010" + SIX_NOSES + "E", 34);
        fault("S010EEEEEEEE" + SIX_NOSES, NONE);
        fault("S010EEEEEEEE" + SIX_NOSES + "N", 42);
        fault("S010EEEEEEEE" + SIX_NOSES + "N01000", 42);
        fault("S010EEX" + SIX_NOSES + "EEXXX", 6);
        fault("S010" + (char) 0, 4);
        fault("S010" + (char) 197, 4);
        fault("S" + (char) 255, 1);
    }

    private static void streets() {
        MorningBill bill = new MorningBill();
        Due.write(bill, "S743EW-N1230N9993");
        DUE.is("street()", bill.street(), 32);
        DUE.is("count(0): the text stays", bill.count(0), 17);
        DUE.is("count(1)", bill.count(1), 3);
        DUE.is("count(2)", bill.count(2), 2);
        DUE.is("count(3)", bill.count(3), 7);
        DUE.is("count(4)", bill.count(4), 4);
        DUE.is("count(5)", bill.count(5), 3);
        Due.write(bill, "S010");
        DUE.is("street() of S010", bill.street(), 0);
        Due.write(bill, "S010EEEEEEEE" + SIX_NOSES);
        DUE.is("street(): the longest", bill.street(), 86);
        bill.wipe();
        DUE.is("the street stays when the text is wiped", bill.count(1), 8);
    }

    private static void streetMadeAnew() {
        MorningBill bill = Due.street("S091--N0190");
        bill.seed(7);
        bill.see(0, 0, true);
        bill.hour(true);
        bill.chimney(3);
        bill.keep(1);
        bill.write('X');
        String before = Due.state(bill);
        DUE.is("street() with a fault", bill.street(), -3);
        DUE.holds("it changes nothing", before.equals(Due.state(bill)));
        DUE.is("again(1) still", bill.again(1), 1);
        bill.chimney(3);
        bill.keep(0);
        Due.write(bill, "S091--N0190");
        DUE.is("street() anew", bill.street(), 21);
        DUE.is("THE HOUR anew", bill.count(6), 0);
        DUE.is("smell anew", bill.smell(0), 0);
        DUE.is("CHIMNEYS anew", bill.count(7), 0);
        DUE.is("PENNIES anew", bill.pennies(), 0);
        DUE.is("ACTS anew", bill.count(9), 0);
        DUE.is("undo() anew", bill.undo(), -3);
        DUE.is("again(0) anew", bill.again(0), -3);
        DUE.is("again(1) anew", bill.again(1), -3);
        DUE.is("SEEN stays", bill.count(10), 1);
        DUE.is("THE SEED stays", bill.seed(0), 7);
    }

    private static void smells() {
        MorningBill bill = Due.street("S340EW-");
        bill.hour(true);
        DUE.is("smell(3)", bill.smell(3), 4);
        DUE.is("smell(2)", bill.smell(2), 0);
        DUE.is("smell(-1)", bill.smell(-1), -2);
        DUE.is("smell(10)", bill.smell(10), -2);
        DUE.is("smell(MIN)", bill.smell(Integer.MIN_VALUE), -2);
        DUE.is("smell(MAX)", bill.smell(Integer.MAX_VALUE), -2);
    }

    private static void winds() {
        MorningBill bill = Due.street("S340EW-");
        DUE.is("wind(0)", bill.wind(0), 1);
        DUE.is("wind(1)", bill.wind(1), -1);
        DUE.is("wind(2)", bill.wind(2), 0);
        DUE.is("wind(3)", bill.wind(3), NONE);
        DUE.is("wind(8)", bill.wind(8), NONE);
        DUE.is("wind(-1)", bill.wind(-1), NONE);
        DUE.is("wind(MIN)", bill.wind(Integer.MIN_VALUE), NONE);
        DUE.is("wind(MAX)", bill.wind(Integer.MAX_VALUE), NONE);
        bill.hour(false);
        DUE.is("wind(0) when it has gone", bill.wind(0), 1);
    }

    private static void noses() {
        MorningBill bill = Due.street("S340--N3482N2173");
        int[][] due = {{3, 4, 8, 2, 0}, {2, 1, 7, 3, 0}};
        for (int nose = 0; nose < 2; nose++) {
            for (int what = 0; what < 5; what++) {
                DUE.is("nose(" + nose + ", " + what + ")", bill.nose(nose, what), due[nose][what]);
            }
        }
        DUE.is("nose(0, 5)", bill.nose(0, 5), -2);
        DUE.is("nose(0, -1)", bill.nose(0, -1), -2);
        DUE.is("nose(2, 0)", bill.nose(2, 0), -1);
        DUE.is("nose(-1, 0)", bill.nose(-1, 0), -1);
        DUE.is("nose(2, 5)", bill.nose(2, 5), -1);
        DUE.is("nose(MIN, MIN)", bill.nose(Integer.MIN_VALUE, Integer.MIN_VALUE), -1);
        bill.hour(true);
        DUE.is("nose(0, 4): just strong enough", bill.nose(0, 4), 1);
        DUE.is("nose(1, 4)", bill.nose(1, 4), 0);
        bill.hour(false);
        DUE.is("nose(0, 4): too thin", bill.nose(0, 4), 0);
    }

    private static void pennies() {
        MorningBill bill = Due.street("S342--N3350");
        bill.hour(true);
        DUE.is("pennies()", bill.pennies(), 3);
        bill.hour(false);
        DUE.is("pennies()", bill.pennies(), 8);
        bill.undo();
        DUE.is("pennies() undone", bill.pennies(), 3);
    }
}
