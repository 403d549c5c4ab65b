import java.math.BigInteger;

/**
 * Promises 23 to 27 at their edges: one test for each sentence that names a boundary. A test's name begins with
 * the promise's number, the sentence is told in its first line.
 */
public final class EdgesChancesTest {
    private static final Due DUE = new Due("EdgesChancesTest");
    private static final int OUTSIDE = -2;
    private static final int NONE = -99;
    private static final long UNKNOWN_FAR = -1000000000001L;
    private static final long OUTSIDE_FAR = -1000000000002L;
    private static final int MIN = Integer.MIN_VALUE;
    private static final int MAX = Integer.MAX_VALUE;
    private static final String[] STREETS = {
        Scene.STREET, "S441E-WWEEW-N4350N5242N3161N6133N2170N4993", "S491EEEEEEEEN4240N7150N2163N6132N8171N3180",
    };

    public static void main(String[] args) {
        p23_eachWindThatIsLeftTurns();
        p23_noneStaysNone();
        p23_xTenths0To10();
        p23_fractions();
        p23_outsidePlanX();
        p24_whatItAlonePays();
        p24_refusals();
        p25_eachBakesInOneHourLeftOrInNone();
        p25_smellOfEachByItself();
        p25_strongerOfLikeOnesTheFirst();
        p25_getsThemFromTheFirst();
        p25_howManyPairs();
        p25_theFirstNoneLast();
        p25_noneThereIsNone();
        p25_outsideCellWhat();
        p26_whatItWas();
        p26_zeroAtFirst();
        p27_mTimes1To20();
        p27_wrapping();
        p27_upper31BitsBy2();
        p27_allTimesTogether();
        p27_outsideM();
        p27_refusalsAreLess();
        DUE.end();
    }

    /** The street after some hours, the first one and each third one baked. */
    private static MorningBill after(String text, int gone) {
        return Due.street(text, "10010010".substring(0, gone));
    }

    private static long power(long base, int times) {
        return times == 0 ? 1 : base * power(base, times - 1);
    }

    private static void meanIs(String when, MorningBill bill, int plan, int x, Fraction due) {
        String call = when + ": mean(" + plan + ", " + x + ", ";
        DUE.is(call + "true)", bill.mean(plan, x, true), due.above());
        DUE.is(call + "false)", bill.mean(plan, x, false), due.below());
    }

    private static void fairIs(String when, MorningBill bill, int nose, int plan, int x, Fraction due) {
        String call = when + ": fair(" + nose + ", " + plan + ", " + x + ", ";
        DUE.is(call + "true)", bill.fair(nose, plan, x, true), due.above());
        DUE.is(call + "false)", bill.fair(nose, plan, x, false), due.below());
    }

    /** The street's text with the winds of some hours (bits) the other way. */
    private static String turned(String street, int hours) {
        StringBuilder text = new StringBuilder(street);
        for (int hour = 0; hour < 8; hour++) {
            if ((hours >> hour & 1) == 1) {
                char wind = street.charAt(4 + hour);
                text.setCharAt(4 + hour, wind == 'E' ? 'W' : wind == 'W' ? 'E' : '-');
            }
        }
        return text.toString();
    }

    /** The mean by writing a street for each way that its winds can turn. */
    private static Fraction meanByWriting(String street, int gone, int plan, int x) {
        long above = 0;
        int left = 8 - gone;
        for (int set = 0; set < 1 << left; set++) {
            int turns = Integer.bitCount(set);
            long chance = power(x, turns) * power(10 - x, left - turns);
            above += chance * after(turned(street, set << gone), gone).by(plan);
        }
        return Fraction.of(above, power(10, left));
    }

    // ---- mean and fair

    private static void p23_eachWindThatIsLeftTurns() {
        DUE.sentence(23, "TURNS: each WIND that is left is the other way (E and W; none stays none) by x tenths"
            + " (0 to 10), by itself. MEAN of a PLAN: of PENNIES that come by all HOURS left: a FRACTION.");
        int[] plans = {0, 255, 90};
        for (String street : STREETS) {
            for (int gone = 0; gone <= 8; gone += 2) {
                for (int plan : plans) {
                    for (int x = 0; x <= 10; x += 5 - gone / 4) {
                        Fraction due = meanByWriting(street, gone, plan, x);
                        meanIs(street + " at " + gone, after(street, gone), plan, x, due);
                    }
                }
            }
        }
        MorningBill gone = Due.street("S590EEN6150", "1");
        meanIs("the wind that has gone does not turn", gone, 0, 1, new Fraction(9, 2));
        gone.hour(false);
        meanIs("no wind is left", gone, 255, 5, new Fraction(0, 1));
        meanIs("of a new object", new MorningBill(), 255, 5, new Fraction(0, 1));
    }

    private static void p23_noneStaysNone() {
        DUE.sentence(23, "(E and W; none stays none)");
        for (int x = 0; x <= 10; x++) {
            meanIs("no wind at all", Due.street("S590--------N5150"), 1, x, new Fraction(40, 1));
            meanIs("E is W by x", Due.street("S590-EN6150"), 1, x, Fraction.of(5 * (10 - x), 10));
            meanIs("W is E by x", Due.street("S590-WN6150"), 1, x, Fraction.of(5 * x, 10));
            meanIs("E pays by 10 - x", Due.street("S590EN5152"), 1, x, Fraction.of(5 * (10 - x), 10));
            meanIs("W pays by x", Due.street("S590WN5152"), 1, x, Fraction.of(5 * x, 10));
            meanIs("none never pays", Due.street("S590-N5152"), 1, x, new Fraction(0, 1));
        }
    }

    private static void p23_xTenths0To10() {
        DUE.sentence(23, "by x tenths (0 to 10), by itself.");
        for (String street : STREETS) {
            for (int plan = 0; plan < 256; plan += 15) {
                int as = Due.street(street).by(plan);
                meanIs("none turns", Due.street(street), plan, 0, new Fraction(as, 1));
                int other = Due.street(turned(street, 255)).by(plan);
                meanIs("all turn", Due.street(street), plan, 10, new Fraction(other, 1));
            }
        }
        MorningBill bill = Due.street("S590E");
        DUE.is("mean(0, -1, true)", bill.mean(0, -1, true), OUTSIDE_FAR);
        DUE.is("mean(0, 11, true)", bill.mean(0, 11, true), OUTSIDE_FAR);
        DUE.is("mean(0, 0, false)", bill.mean(0, 0, false), 1);
        DUE.is("mean(0, 10, false)", bill.mean(0, 10, false), 1);
        MorningBill twice = Due.street("S590-EEN7170");
        meanIs("both by themselves", twice, 1, 1, new Fraction(567, 100));
        meanIs("both by themselves", twice, 1, 5, new Fraction(7, 4));
    }

    private static void p23_fractions() {
        DUE.sentence(23, "FRACTIONS are told above (upper = true; below 0, if they are), below (1 and more), in"
            + " least terms; refusals of them are told likewise.");
        meanIs("none", Due.street("S590EN5100"), 1, 3, new Fraction(0, 1));
        meanIs("whole", Due.street("S590EN5130"), 1, 3, new Fraction(3, 1));
        meanIs("whole, below none", Due.street("S593EEE"), 7, 3, new Fraction(-9, 1));
        meanIs("below none", Due.street("S592-EN6110"), 1, 3, new Fraction(-13, 10));
        meanIs("in least terms, whole", Due.street("S590-EN6140"), 1, 5, new Fraction(2, 1));
        meanIs("in least terms", Due.street("S590-EN6140"), 1, 3, new Fraction(14, 5));
        MorningBill far = Due.street("S190-EEEEEEEN8170");
        meanIs("the least chance", far, 1, 9, new Fraction(7, 10000000));
        meanIs("seven winds", far, 1, 3, Fraction.of(7 * power(7, 7), power(10, 7)));
        DUE.is("refused, above", far.mean(256, 5, true), OUTSIDE_FAR);
        DUE.is("refused, below", far.mean(256, 5, false), OUTSIDE_FAR);
        DUE.is("refused, above", far.mean(0, 11, true), OUTSIDE_FAR);
        DUE.is("refused, below", far.mean(0, 11, false), OUTSIDE_FAR);
    }

    private static void p23_outsidePlanX() {
        DUE.sentence(23, "MEAN. OUTSIDE: plan, x.");
        MorningBill bill = Due.street("S013EEEEEEEE");
        meanIs("the least plan", bill, 0, 5, new Fraction(0, 1));
        meanIs("the greatest plan", bill, 255, 5, new Fraction(-24, 1));
        int[][] outside = {{-1, 5}, {256, 5}, {MIN, 5}, {MAX, 5}, {0, -1}, {0, 11}, {255, MIN}, {255, MAX},
            {-1, -1}, {256, 11}};
        for (int[] told : outside) {
            meanIs("outside", bill, told[0], told[1], new Fraction(OUTSIDE_FAR, OUTSIDE_FAR));
            meanIs("outside", new MorningBill(), told[0], told[1], new Fraction(OUTSIDE_FAR, OUTSIDE_FAR));
        }
    }

    /** The street with one nose alone, where it costs nothing to bake. */
    private static String alone(String street, int nose) {
        return street.substring(0, 3) + "0" + street.substring(4, 12) + street.substring(12 + 5 * nose, 17 + 5 * nose);
    }

    private static void p24_whatItAlonePays() {
        DUE.sentence(24, "FAIR for a NOSE and a PLAN: the mean of what it alone pays in all HOURS left (less"
            + " what it gets): a FRACTION.");
        for (String street : STREETS) {
            for (int gone = 0; gone <= 8; gone += 4) {
                for (int nose = 0; nose < 6; nose++) {
                    Fraction due = meanByWriting(alone(street, nose), gone, 229, 3);
                    fairIs(street + " at " + gone, after(street, gone), nose, 229, 3, due);
                }
            }
        }
        MorningBill four = Due.street("S594EN5170N6171N5172N5173");
        fairIs("by the hour", four, 0, 1, 3, new Fraction(7, 1));
        fairIs("in advance", four, 1, 1, 3, new Fraction(-7, 1));
        fairIs("by east wind", four, 2, 1, 3, new Fraction(49, 10));
        fairIs("sent back", four, 3, 1, 3, new Fraction(-7, 1));
        fairIs("idle", four, 0, 0, 3, new Fraction(0, 1));
        four.hour(true);
        for (int nose = 0; nose < 4; nose++) {
            fairIs("no hour is left", four, nose, 255, 3, new Fraction(0, 1));
        }
    }

    private static void p24_refusals() {
        DUE.sentence(24, "FAIR. UNKNOWN; OUTSIDE: plan, x.");
        String noses = "N5110N5110N5110N5110N5110N5110";
        for (int count = 0; count <= 6; count++) {
            MorningBill bill = Due.street("S590-" + noses.substring(0, 5 * count));
            int[] unknown = {-1, count, 6, MIN, MAX};
            for (int nose : unknown) {
                fairIs("of " + count, bill, nose, 0, 0, new Fraction(UNKNOWN_FAR, UNKNOWN_FAR));
                fairIs("of " + count, bill, nose, 256, 0, new Fraction(UNKNOWN_FAR, UNKNOWN_FAR));
                fairIs("of " + count, bill, nose, 0, 11, new Fraction(UNKNOWN_FAR, UNKNOWN_FAR));
            }
            if (count > 0) {
                fairIs("of " + count, bill, count - 1, 255, 10, new Fraction(1, 1));
                fairIs("of " + count, bill, count - 1, 0, 0, new Fraction(0, 1));
            }
        }
        int[][] outside = {{-1, 5}, {256, 5}, {MIN, 5}, {MAX, 5}, {0, -1}, {0, 11}, {255, MIN}, {255, MAX}};
        MorningBill bill = Due.street("S590-" + noses);
        for (int[] told : outside) {
            fairIs("outside", bill, 5, told[0], told[1], new Fraction(OUTSIDE_FAR, OUTSIDE_FAR));
        }
    }

    // ---- bakers

    private static void bakersAre(String when, MorningBill bill, int cell, int pairs, int first) {
        DUE.is(when + ": bakers(" + cell + ", 0)", bill.bakers(cell, 0), pairs);
        DUE.is(when + ": bakers(" + cell + ", 1)", bill.bakers(cell, 1), first);
    }

    /** How strong it is for each nose in each hour left, by acts: one hour (or none) is baked. */
    private static int[][] strengths(MorningBill bill, int chimneys, int baked) {
        for (int cell = 0; cell < 10; cell++) {
            if ((chimneys >> cell & 1) == 1) {
                bill.chimney(cell);
            }
        }
        int winds = bill.count(1);
        int noses = bill.count(2);
        int[][] strong = new int[winds][noses];
        for (int hour = bill.count(6); hour < winds; hour++) {
            bill.hour(hour == baked);
            for (int nose = 0; nose < noses; nose++) {
                strong[hour][nose] = bill.smell(bill.nose(nose, 0));
            }
        }
        return strong;
    }

    /** What the first one (0) and the second one (1) have, each by its hour. */
    private static int[] comes(String street, int gone, int chimneys, int cell, int one, int other) {
        String second = street.substring(0, 1) + cell + street.substring(2);
        int[][] mine = strengths(after(street, gone), chimneys, one);
        int[][] yours = strengths(Due.street(second, "00000000".substring(0, gone)), chimneys, other);
        MorningBill bill = Due.street(street);
        int[] has = {one == 9 ? 0 : -bill.count(5), other == 9 ? 0 : -bill.count(5)};
        for (int hour = gone; hour < mine.length; hour++) {
            for (int nose = 0; nose < mine[hour].length; nose++) {
                int strongest = Math.max(mine[hour][nose], yours[hour][nose]);
                boolean hasIt = strongest >= bill.nose(nose, 1);
                int price = bill.nose(nose, 2);
                int contract = bill.nose(nose, 3);
                int paid = yours[hour][nose] > mine[hour][nose] ? 1 : 0;
                if (hasIt && (contract == 0 || contract == 2 && bill.wind(hour) == 1)) {
                    has[paid] += price;
                } else if (hasIt && contract == 3 || !hasIt && contract == 1) {
                    has[0] -= price;
                }
            }
        }
        return has;
    }

    private static void bakersByActs(String street, int gone, int chimneys, int cell) {
        int left = 8 - gone;
        int[][][] has = new int[left + 1][left + 1][];
        for (int one = 0; one <= left; one++) {
            for (int other = 0; other <= left; other++) {
                has[one][other] = comes(street, gone, chimneys, cell, hourOf(one, gone), hourOf(other, gone));
            }
        }
        int pairs = 0;
        int first = NONE;
        for (int one = 0; one <= left; one++) {
            for (int other = 0; other <= left; other++) {
                boolean rests = true;
                for (int choice = 0; choice <= left; choice++) {
                    rests &= has[choice][other][0] <= has[one][other][0];
                    rests &= has[one][choice][1] <= has[one][other][1];
                }
                if (rests) {
                    first = pairs == 0 ? 10 * hourOf(one, gone) + hourOf(other, gone) : first;
                    pairs++;
                }
            }
        }
        MorningBill bill = after(street, gone);
        for (int each = 0; each < 10; each++) {
            if ((chimneys >> each & 1) == 1) {
                bill.chimney(each);
            }
        }
        bakersAre(street + " at " + gone + ", chimneys " + chimneys, bill, cell, pairs, first);
    }

    private static int hourOf(int choice, int gone) {
        return gone + choice < 8 ? gone + choice : 9;
    }

    private static void p25_eachBakesInOneHourLeftOrInNone() {
        DUE.sentence(25, "TWO BAKERS: a second one is at CELL c, of like STRENGTH and COST; each bakes in one"
            + " HOUR that is left, or in none; the smell of each goes by itself; a NOSE has it, if the stronger"
            + " of both is strong enough;");
        for (String street : STREETS) {
            for (int cell = 0; cell < 10; cell++) {
                bakersByActs(street, cell % 3, 0, cell);
                bakersByActs(street, 5, 1 << (9 - cell), cell);
            }
        }
        bakersAre("no hour is left", Due.street("S010-N0150", "1"), 0, 1, 99);
        bakersAre("of a new object", new MorningBill(), 9, 1, 99);
    }

    private static void p25_smellOfEachByItself() {
        DUE.sentence(25, "the smell of each goes by itself; a NOSE has it, if the stronger of both is strong enough;");
        bakersAre("two smells are not added up", Due.street("S050-N0650"), 0, 4, 0);
        bakersAre("just strong enough", Due.street("S051-N0550"), 0, 1, 9);
        bakersAre("what is there is the first one's", Due.street("S052---N0150", "1"), 9, 1, 99);
        bakersAre("what is there is not the second one's", Due.street("S131-EN2550", "1"), 2, 1, 99);
        bakersAre("nor at 0", Due.street("S131-WN0550", "1"), 0, 1, 99);
        bakersAre("nor at 9", Due.street("S831-EN9550", "1"), 9, 1, 99);
    }

    private static void p25_strongerOfLikeOnesTheFirst() {
        DUE.sentence(25, "one that pays pays the one of the stronger smell (of like ones the first one),");
        bakersAre("like ones: the first one", Due.street("S013-N0150"), 0, 1, 9);
        bakersAre("the first one's cell", Due.street("S913-N9150"), 0, 1, 9);
        bakersAre("the second one's cell", Due.street("S013-N9150"), 9, 1, 90);
        bakersAre("a single penny", Due.street("S010-N9110"), 9, 2, 0);
        MorningBill two = Due.street("S090-EN1150");
        bakersAre("like ones in a later hour", two, 0, 3, 0);
    }

    private static void p25_getsThemFromTheFirst() {
        DUE.sentence(25, "one that gets PENNIES gets them from the first one:");
        bakersAre("sent back by the second one's smell", Due.street("S010-N9193"), 9, 4, 0);
        bakersAre("in advance, the second one does not care", Due.street("S011-N9191"), 9, 1, 99);
        bakersAre("in advance, the first one cares", Due.street("S911-N9191"), 0, 1, 9);
        bakersAre("in advance, it costs as much", Due.street("S919-N9191"), 0, 2, 9);
    }

    private static void p25_howManyPairs() {
        DUE.sentence(25, "pairs (10 times the HOUR of the first one and that of the second one; 9: none) in"
            + " which neither has more by another choice alone: how many;");
        for (int winds = 0; winds <= 8; winds++) {
            String text = "EEEEEEEE".substring(0, winds);
            int all = (winds + 1) * (winds + 1);
            bakersAre(winds + " hours, all pairs", Due.street("S010" + text), 5, all, winds == 0 ? 99 : 0);
            bakersAre(winds + " hours, it costs", Due.street("S011" + text), 5, 1, 99);
        }
        bakersAre("like is not more", Due.street("S015-N0150"), 9, 2, 9);
    }

    private static void p25_theFirstNoneLast() {
        DUE.sentence(25, "the first (by the first one's HOUR, none last, then the second one's); NONE.");
        MorningBill bill = Due.street("S010---");
        bakersAre("from the beginning", bill, 5, 16, 0);
        bill.hour(false);
        bakersAre("hours that are left", bill, 5, 9, 11);
        bill.hour(false);
        bakersAre("the last hour", bill, 5, 4, 22);
        bill.hour(false);
        bakersAre("none is left", bill, 5, 1, 99);
        bakersAre("the last of eight hours", Due.street("S010EEEEEEEE", "0000000"), 5, 4, 77);
        bakersAre("the first one none", Due.street("S013-N9150"), 9, 1, 90);
        bakersAre("the second one none", Due.street("S013-N0150"), 9, 1, 9);
        bakersAre("the second one's hour next", Due.street("S013WEN0190N9192"), 9, 2, 1);
    }

    private static void p25_noneThereIsNone() {
        DUE.sentence(25, "TWO BAKERS: how many pairs (what = 0), the first (1; NONE: there is none).");
        MorningBill bill = Due.street("S032--N0250", "1");
        bakersAre("neither comes to rest", bill, 0, 0, NONE);
        bakersAre("they do elsewhere", bill, 9, 1, 99);
    }

    private static void p25_outsideCellWhat() {
        DUE.sentence(25, "OUTSIDE: cell, what.");
        MorningBill bill = Due.street("S010-");
        for (int cell = 0; cell < 10; cell++) {
            bakersAre("each cell", bill, cell, 4, 0);
        }
        int[][] outside = {{-1, 0}, {10, 0}, {MIN, 1}, {MAX, 1}, {0, -1}, {0, 2}, {9, MIN}, {9, MAX}, {10, 2}};
        for (int[] told : outside) {
            String call = "bakers(" + told[0] + ", " + told[1] + ")";
            DUE.is(call, bill.bakers(told[0], told[1]), OUTSIDE);
            DUE.is(call + " of a new object", new MorningBill().bakers(told[0], told[1]), OUTSIDE);
        }
    }

    // ---- seed and mornings

    private static void p26_whatItWas() {
        DUE.sentence(26, "THE SEED is v: what it was.");
        MorningBill bill = new MorningBill();
        long[] seeds = {1, -1, Long.MAX_VALUE, Long.MIN_VALUE, 1L << 32, Integer.MIN_VALUE, 0};
        long was = 0;
        for (long seed : seeds) {
            DUE.is("seed(" + seed + ")", bill.seed(seed), was);
            DUE.is("seed(" + seed + ") again", bill.seed(seed), seed);
            was = seed;
        }
    }

    private static void p26_zeroAtFirst() {
        DUE.sentence(26, "(THE SEED, a long; 0 at first)");
        DUE.is("seed(7) of a new object", new MorningBill().seed(7), 0);
        MorningBill bill = Due.street("S010-");
        bill.mornings(1);
        DUE.is("seed after one hour from 0", bill.seed(0), 1442695040888963407L);
    }

    /** What comes by a seed, and the seed then (below), where numbers do not wrap by themselves. */
    private static long[] bySeed(MorningBill bill, long seed, int m) {
        BigInteger all = BigInteger.ONE.shiftLeft(64);
        BigInteger x = BigInteger.valueOf(seed);
        int from = bill.count(6);
        int to = bill.count(1);
        long sum = 0;
        for (int time = 0; time < m; time++) {
            int plan = 0;
            for (int hour = from; hour < to; hour++) {
                x = x.multiply(new BigInteger("6364136223846793005")).add(new BigInteger("1442695040888963407"));
                x = x.mod(all);
                plan |= x.shiftRight(33).testBit(0) ? 1 << hour : 0;
            }
            sum += bill.by(plan);
        }
        return new long[] {sum, x.longValue()};
    }

    private static void morningsAre(MorningBill bill, long seed, int m) {
        long[] due = bySeed(bill, seed, m);
        bill.seed(seed);
        DUE.is("mornings(" + m + ") from " + seed, bill.mornings(m), due[0]);
        DUE.is("the seed after mornings(" + m + ") from " + seed, bill.seed(0), due[1]);
    }

    private static void p27_mTimes1To20() {
        DUE.sentence(27, "MORNINGS by THE SEED: m times (1 to 20), from now on:");
        for (String street : STREETS) {
            for (int gone = 0; gone <= 8; gone++) {
                morningsAre(after(street, gone), gone * 1000003L, 1);
                morningsAre(after(street, gone), gone * 1000003L, 20);
            }
        }
        for (int m = 1; m <= 20; m++) {
            morningsAre(Due.street("S013EW-EW-EWN0150"), 42, m);
        }
        MorningBill none = Due.street("S090-N0190", "1");
        none.seed(9);
        DUE.is("mornings(20), no hour is left", none.mornings(20), 0);
        DUE.is("the seed stays then", none.seed(0), 9);
    }

    private static void p27_wrapping() {
        DUE.sentence(27, "for each HOUR left x (THE SEED, a long; 0 at first) becomes x times"
            + " 6364136223846793005 and 1442695040888963407 (64 bits, wrapping);");
        long[] seeds = {0, 1, -1, Long.MAX_VALUE, Long.MIN_VALUE, 1L << 32, 1L << 62, -1442695040888963407L};
        for (long seed : seeds) {
            morningsAre(Due.street("S013--------N0150"), seed, 20);
            morningsAre(Due.street("S013-N0150"), seed, 1);
        }
    }

    /** The hour is baked just if bit 33 is set: it is the lowest of the upper 31. */
    private static void p27_upper31BitsBy2() {
        DUE.sentence(27, "its upper 31 bits by 2, what is left: 1: it is BAKED:");
        BigInteger back = new BigInteger("6364136223846793005").modInverse(BigInteger.ONE.shiftLeft(64));
        for (int bit = 0; bit < 64; bit++) {
            long then = 1L << bit;
            BigInteger less = BigInteger.valueOf(then).subtract(BigInteger.valueOf(1442695040888963407L));
            long seed = less.multiply(back).longValue();
            MorningBill bill = Due.street("S013-");
            bill.seed(seed);
            DUE.is("mornings(1), only bit " + bit + " is set", bill.mornings(1), bit == 33 ? -3 : 0);
            DUE.is("the seed", bill.seed(0), then);
        }
    }

    private static void p27_allTimesTogether() {
        DUE.sentence(27, "PENNIES that come, all times together.");
        MorningBill bill = Due.street("S099EEEEEEEEN0193N0193N0193N9191N9191N9191");
        morningsAre(bill, 5, 20);
        MorningBill one = Due.street("S013EW-EN0150");
        MorningBill many = Due.street("S013EW-EN0150");
        int sum = 0;
        for (int time = 0; time < 20; time++) {
            sum += one.mornings(1);
        }
        DUE.is("mornings(20) as 20 times mornings(1)", many.mornings(20), sum);
        DUE.is("the seed too", many.seed(0), one.seed(0));
        MorningBill advance = Due.street("S010EEEEEEEEN9191N9191N9191N9191N9191N9191");
        DUE.is("the least of all", advance.mornings(20), -20 * 8 * 6 * 9);
    }

    private static void p27_outsideM() {
        DUE.sentence(27, "MORNINGS. OUTSIDE: m.");
        MorningBill bill = Due.street("S010-");
        int[] outside = {0, 21, 22, -1, MIN, MAX};
        for (int m : outside) {
            bill.seed(77);
            DUE.is("mornings(" + m + ")", bill.mornings(m), -1000002);
            DUE.is("the seed stays", bill.seed(0), 77);
            DUE.is("mornings(" + m + ") of a new object", new MorningBill().mornings(m), -1000002);
        }
        DUE.is("mornings(1)", bill.mornings(1), 0);
        DUE.is("mornings(20)", bill.mornings(20), 0);
    }

    private static void p27_refusalsAreLess() {
        DUE.sentence(27, "Refusals of by(), share(), mornings() are 1000000 less than else (so -1000001"
            + " UNKNOWN, -1000002 OUTSIDE), of mean(), fair() 1000000000000 less.");
        MorningBill bill = Due.street("S010-N0110");
        DUE.is("by(256)", bill.by(256), -1000002);
        DUE.is("share(1, true)", bill.share(1, true), -1000001);
        DUE.is("mornings(21)", bill.mornings(21), -1000002);
        DUE.is("mean(256, 0, true)", bill.mean(256, 0, true), -1000000000002L);
        DUE.is("mean(0, 11, false)", bill.mean(0, 11, false), -1000000000002L);
        DUE.is("fair(1, 0, 0, true)", bill.fair(1, 0, 0, true), -1000000000001L);
        DUE.is("fair(0, 256, 0, false)", bill.fair(0, 256, 0, false), -1000000000002L);
        DUE.is("had(256)", bill.had(256), -2);
        DUE.is("only(2)", bill.only(2), -2);
        DUE.is("judge(0, 0)", bill.judge(0, 0), -2);
    }
}
