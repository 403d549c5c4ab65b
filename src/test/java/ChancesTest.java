/** Promises 23 to 27: mean, fair, bakers, seed, mornings. */
public final class ChancesTest {
    private static final Due DUE = new Due("ChancesTest");
    private static final int NONE = -99;

    public static void main(String[] args) {
        windsThatTurn();
        eastWindThatTurns();
        meansFromNowOn();
        refusedMeans();
        oneHourBetweenTwo();
        noPairAtRest();
        secondGoesFirst();
        pairsOfHours();
        refusedBakers();
        seeds();
        morningsBySeed();
        DUE.end();
    }

    private static void mean(MorningBill bill, int plan, int x, long above, long below) {
        DUE.is("mean(" + plan + ", " + x + ", true)", bill.mean(plan, x, true), above);
        DUE.is("mean(" + plan + ", " + x + ", false)", bill.mean(plan, x, false), below);
    }

    private static void fair(MorningBill bill, int nose, int plan, int x, long above, long below) {
        String call = "fair(" + nose + ", " + plan + ", " + x + ", ";
        DUE.is(call + "true)", bill.fair(nose, plan, x, true), above);
        DUE.is(call + "false)", bill.fair(nose, plan, x, false), below);
    }

    private static void windsThatTurn() {
        MorningBill bill = Due.street("S521EEN6140N4130N6123");
        mean(bill, 1, 0, 1, 1);
        mean(bill, 1, 3, 13, 10);
        mean(bill, 1, 10, 2, 1);
        mean(bill, 0, 5, 0, 1);
        fair(bill, 0, 1, 3, 14, 5);
        fair(bill, 1, 1, 3, 9, 10);
        fair(bill, 2, 1, 3, -7, 5);
        fair(bill, 2, 2, 3, 0, 1);
        fair(bill, 0, 253, 0, 4, 1);
        MorningBill still = Due.street("S521--N5140");
        mean(still, 1, 7, 7, 1);
        fair(still, 0, 1, 7, 8, 1);
    }

    private static void eastWindThatTurns() {
        MorningBill bill = Due.street("S510EW-N5132");
        mean(bill, 7, 0, 3, 1);
        mean(bill, 7, 10, 3, 1);
        mean(bill, 1, 2, 12, 5);
        mean(bill, 2, 2, 3, 5);
        mean(bill, 4, 2, 0, 1);
        MorningBill advance = Due.street("S520EEEEEEEEN6141");
        fair(advance, 0, 0, 5, -32, 1);
        fair(advance, 0, 1, 1, -142, 5);
    }

    private static void meansFromNowOn() {
        MorningBill bill = Due.street("S521EEN6140");
        bill.hour(true);
        mean(bill, 0, 1, 18, 5);
        mean(bill, 1, 1, 18, 5);
        mean(bill, 2, 1, 13, 5);
        bill.chimney(6);
        mean(bill, 0, 1, 0, 1);
        bill.hour(false);
        mean(bill, 255, 5, 0, 1);
        fair(bill, 0, 255, 5, 0, 1);
    }

    private static void refusedMeans() {
        MorningBill bill = Due.street("S521EEN6140");
        long outside = -1000000000002L;
        long unknown = -1000000000001L;
        int[][] told = {{-1, 0}, {256, 0}, {0, -1}, {0, 11}, {Integer.MIN_VALUE, 0}, {0, Integer.MAX_VALUE}};
        for (int[] each : told) {
            mean(bill, each[0], each[1], outside, outside);
            fair(bill, 0, each[0], each[1], outside, outside);
            fair(bill, 1, each[0], each[1], unknown, unknown);
        }
        fair(bill, 1, 0, 0, unknown, unknown);
        fair(bill, -1, 0, 0, unknown, unknown);
        fair(bill, Integer.MAX_VALUE, 0, 0, unknown, unknown);
    }

    private static void bakersAre(MorningBill bill, int cell, int pairs, int first) {
        DUE.is("bakers(" + cell + ", 0)", bill.bakers(cell, 0), pairs);
        DUE.is("bakers(" + cell + ", 1)", bill.bakers(cell, 1), first);
    }

    /** Of like smells the first one is paid, so the second one stays idle. */
    private static void oneHourBetweenTwo() {
        bakersAre(Due.street("S013-N0150"), 0, 1, 9);
        bakersAre(Due.street("S013-N9150"), 9, 1, 90);
        bakersAre(Due.street("S013-N0150N9150"), 9, 1, 0);
        bakersAre(Due.street("S016-N0150N9150"), 9, 1, 99);
        bakersAre(new MorningBill(), 5, 1, 99);
    }

    /** What was baked before is the first one's; with it neither comes to rest. */
    private static void noPairAtRest() {
        MorningBill bill = Due.street("S032--N0250");
        bill.hour(true);
        bakersAre(bill, 0, 0, NONE);
        bakersAre(bill, 9, 1, 99);
        String before = Due.state(bill);
        bill.bakers(0, 0);
        DUE.holds("nothing is changed by bakers", before.equals(Due.state(bill)));
    }

    /** The nose at 9 gets its pennies from the first one, whoever baked. */
    private static void secondGoesFirst() {
        bakersAre(Due.street("S010-N9133"), 9, 4, 0);
        bakersAre(Due.street("S011-N9141"), 9, 1, 99);
        bakersAre(Due.street("S911-N9141"), 0, 1, 9);
    }

    private static void pairsOfHours() {
        MorningBill bill = Due.street("S010EW-N0142");
        bakersAre(bill, 9, 4, 0);
        bill.hour(false);
        bakersAre(bill, 9, 9, 11);
        MorningBill built = Due.street("S010EN0142");
        bakersAre(built, 9, 2, 0);
        built.chimney(0);
        bakersAre(built, 9, 4, 0);
    }

    private static void refusedBakers() {
        MorningBill bill = Due.street("S013-N0150");
        int[][] told = {{-1, 0}, {10, 0}, {0, 2}, {0, -1}, {Integer.MIN_VALUE, 0}, {0, Integer.MAX_VALUE}};
        for (int[] each : told) {
            DUE.is("bakers(" + each[0] + ", " + each[1] + ")", bill.bakers(each[0], each[1]), -2);
        }
    }

    private static void seeds() {
        MorningBill bill = new MorningBill();
        DUE.is("seed(5)", bill.seed(5), 0);
        DUE.is("seed(MIN)", bill.seed(Long.MIN_VALUE), 5);
        DUE.is("seed(-1)", bill.seed(-1), Long.MIN_VALUE);
        DUE.is("seed(MAX)", bill.seed(Long.MAX_VALUE), -1);
        DUE.is("seed(0)", bill.seed(0), Long.MAX_VALUE);
    }

    private static void morningsBySeed() {
        MorningBill bill = Due.street("S013--------");
        bill.hour(false);
        for (int m = 1; m <= 20; m++) {
            long start = 1L << (3 * m);
            bill.seed(start);
            long x = start;
            int baked = 0;
            for (int hour = 0; hour < 7 * m; hour++) {
                x = x * 6364136223846793005L + 1442695040888963407L;
                baked += (int) (x >>> 33) % 2;
            }
            DUE.is("mornings(" + m + ")", bill.mornings(m), -3 * baked);
            DUE.is("seed after mornings(" + m + ")", bill.seed(start), x);
        }
        bill.seed(77);
        DUE.is("mornings(0)", bill.mornings(0), -1000002);
        DUE.is("mornings(21)", bill.mornings(21), -1000002);
        DUE.is("mornings(MIN)", bill.mornings(Integer.MIN_VALUE), -1000002);
        DUE.is("seed: refused mornings leave it", bill.seed(77), 77);
        String before = Due.state(bill);
        bill.mornings(20);
        bill.seed(77);
        DUE.holds("nothing but the seed is changed", before.equals(Due.state(bill)));
        MorningBill none = new MorningBill();
        none.seed(9);
        DUE.is("mornings(20) with no hour left", none.mornings(20), 0);
        DUE.is("the seed then", none.seed(0), 9);
    }
}
