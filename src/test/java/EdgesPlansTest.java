import java.util.ArrayList;
import java.util.Arrays;
import java.util.List;

/**
 * Promises 13 to 19 at their edges: one test for each sentence that names a boundary. A test's name begins with
 * the promise's number, the sentence is told in its first line. Where a plan can be tried by acts, it is.
 */
public final class EdgesPlansTest {
    private static final Due DUE = new Due("EdgesPlansTest");
    private static final int UNKNOWN = -1;
    private static final int OUTSIDE = -2;
    private static final int NONE = -99;
    private static final int LESS = 1000000;
    private static final int MIN = Integer.MIN_VALUE;
    private static final int MAX = Integer.MAX_VALUE;
    /** Streets of eight hours with all contracts, some with much to gain, some with little. */
    private static final String[] STREETS = {
        Scene.STREET, "S441E-WWEEW-N4350N5242N3161N6133N2170N4993", "S590--------N5990N5193N4110",
        "S091EEEEEEEEN0940N3450N7130N9190N4363N1271", "S925WWW-WWEEN9520N8440N7350N5130N9181N8173",
    };

    public static void main(String[] args) {
        p13_byAPlan();
        p13_setOfHoursThatAreLeft();
        p13_plan0To255();
        p14_mostCome();
        p14_fewestHoursThenLeastBits();
        p14_asBitsAndPennies();
        p15_oneMoreOrOneLess();
        p15_ofLikeOnesTheLeast();
        p15_noneMoreThanWithout();
        p15_noneNoHourIsLeft();
        p16_eachOrderAsLikely();
        p16_onlyThosePayOrGet();
        p16_fractions();
        p16_unknown();
        p17_hours1To8();
        p17_anotherFigure();
        p17_noHourIsLeft();
        p17_lessThanNoPennies();
        p17_noneNone();
        p17_rowOfNFiguresAtMost();
        p18_hadInSomeHourThatIsLeft();
        p18_outsidePlan();
        p19_justTheTold();
        p19_fewestHoursThenLeastBits();
        p19_none();
        p19_outsideNoses();
        DUE.end();
    }

    private static String idle(int hours) {
        return "00000000".substring(0, hours);
    }

    /** The street after some hours, the first one and each third one baked. */
    private static MorningBill after(String text, int gone) {
        return Due.street(text, "10010010".substring(0, gone));
    }

    /** What comes by a plan, by acting it. */
    private static int acted(MorningBill bill, int plan) {
        int before = bill.pennies();
        for (int hour = bill.count(6); hour < bill.count(1); hour++) {
            bill.hour((plan >> hour & 1) == 1);
        }
        return bill.pennies() - before;
    }

    /** All sets of the hours that are left, fewest hours first, then least by bits. */
    private static List<Integer> plansLeft(MorningBill bill) {
        List<Integer> plans = new ArrayList<>();
        int gone = (1 << bill.count(6)) - 1;
        int all = 1 << bill.count(1);
        for (int size = 0; size <= 8; size++) {
            for (int plan = 0; plan < all; plan++) {
                if ((plan & gone) == 0 && Integer.bitCount(plan) == size) {
                    plans.add(plan);
                }
            }
        }
        return plans;
    }

    private static int bestByTrying(MorningBill bill) {
        int best = 0;
        int most = bill.by(best);
        for (int plan : plansLeft(bill)) {
            int comes = bill.by(plan);
            if (comes > most) {
                best = plan;
                most = comes;
            }
        }
        return best;
    }

    // ---- by

    private static void p13_byAPlan() {
        DUE.sentence(13, "BY a PLAN: PENNIES that come by all HOURS left.");
        for (String street : STREETS) {
            for (int gone = 0; gone <= 8; gone++) {
                for (int plan = 0; plan < 256; plan += gone == 0 ? 1 : 15) {
                    int due = acted(after(street, gone), plan);
                    DUE.is(street + " at " + gone + ": by(" + plan + ")", after(street, gone).by(plan), due);
                }
            }
        }
        DUE.is("by(0) of a new object", new MorningBill().by(0), 0);
        DUE.is("by(255) of a new object", new MorningBill().by(255), 0);
        MorningBill most = Due.street("S090EEEEEEEEN0190N0190N0190N0192N0192N0192");
        DUE.is("by(255), the most", most.by(255), 432);
        MorningBill least = Due.street("S099EEEEEEEEN0193N0193N0193N9191N9191N9191");
        DUE.is("by(255), the least", least.by(255), -504);
        MorningBill paid = Due.street("S013--N0190", "11");
        DUE.is("by(0): what came before is not in it", paid.by(0), 0);
    }

    private static void p13_setOfHoursThatAreLeft() {
        DUE.sentence(13, "A PLAN is a set of HOURS that are left (bits by their number; others do not count) in"
            + " which it is BAKED.");
        for (int winds = 0; winds <= 8; winds++) {
            for (int gone = 0; gone <= winds; gone++) {
                MorningBill bill = Due.street("S013" + "EW-EW-EW".substring(0, winds), idle(gone));
                for (int hour = 0; hour < 8; hour++) {
                    boolean isLeft = hour >= gone && hour < winds;
                    String call = "by(" + (1 << hour) + "), " + gone + " of " + winds + " gone";
                    DUE.is(call, bill.by(1 << hour), isLeft ? -3 : 0);
                }
                DUE.is("by(255), " + gone + " of " + winds + " gone", bill.by(255), -3 * (winds - gone));
            }
        }
    }

    private static void p13_plan0To255() {
        DUE.sentence(13, "BY a PLAN (bits, 0 to 255). OUTSIDE.");
        MorningBill bill = Due.street("S013--------");
        DUE.is("by(0)", bill.by(0), 0);
        DUE.is("by(255)", bill.by(255), -24);
        int[] outside = {-1, 256, 257, 511, -255, -256, MIN, MAX};
        for (int plan : outside) {
            DUE.is("by(" + plan + ")", bill.by(plan), OUTSIDE - LESS);
            DUE.is("by(" + plan + ") of a new object", new MorningBill().by(plan), -1000002);
        }
        DUE.is("by(128): the last hour", bill.by(128), -3);
    }

    // ---- best

    private static void p14_mostCome() {
        DUE.sentence(14, "BEST: the PLAN by which most come;");
        for (String street : STREETS) {
            for (int gone = 0; gone <= 8; gone++) {
                MorningBill bill = after(street, gone);
                MorningBill tried = after(street, gone);
                int best = bestByTrying(tried);
                DUE.is(street + " at " + gone + ": best(false)", bill.best(false), best);
                DUE.is(street + " at " + gone + ": best(true)", bill.best(true), tried.by(best));
            }
        }
        MorningBill all = Due.street("S011--------N0150N0150");
        DUE.is("best(false): all hours", Due.street("S012EEEEEEEEN0190").best(false), 255);
        DUE.is("best(true): all hours", Due.street("S012EEEEEEEEN0190").best(true), 56);
        DUE.is("best(true), by the hour", all.best(true), 72);
        for (int hour = 0; hour < 8; hour++) {
            String east = "WWWWWWWW".substring(0, hour) + "E" + "WWWWWWWW".substring(hour + 1);
            DUE.is("best(false): it pays at " + hour, Due.street("S012" + east + "N0152").best(false), 1 << hour);
            DUE.is("best(true): it pays at " + hour, Due.street("S012" + east + "N0152").best(true), 3);
        }
        DUE.is("best(false), below none is most", Due.street("S019-N0191N9191").best(false), 0);
        DUE.is("best(true), below none is most", Due.street("S018-N0191N9191").best(true), -17);
        DUE.is("best(false), below none is most", Due.street("S018-N0191N9191").best(false), 1);
    }

    private static void p14_fewestHoursThenLeastBits() {
        DUE.sentence(14, "of like ones that of fewest HOURS, of these the least by bits.");
        DUE.is("all are like", Due.street("S010EEEEEEEE").best(false), 0);
        DUE.is("it pays what it costs", Due.street("S015EEEEEEEEN0150").best(false), 0);
        MorningBill four = Due.street("S022---N0120");
        int[] like = {1, 2, 3, 5};
        for (int plan : like) {
            DUE.is("four are like: by(" + plan + ")", four.by(plan), 2);
        }
        DUE.is("the least by bits of the two of one hour", four.best(false), 1);
        MorningBill fewest = Due.street("S620W--EN7180");
        DUE.is("by(3)", fewest.by(3), 8);
        DUE.is("by(4)", fewest.by(4), 8);
        DUE.is("fewer hours go before less bits", fewest.best(false), 4);
        String[] streets = {"S350---WWN2540", "S530W-EWE-N5221", "S540----WEN5632", "S550--WEWN3541N5412",
            "S451WWE-EEN4110N6620", "S532--WEEWN5221", "S430-E-E-N4501"};
        int[] due = {3, 23, 40, 8, 1, 1, 0};
        for (int each = 0; each < streets.length; each++) {
            DUE.is(streets[each] + ": best(false)", Due.street(streets[each]).best(false), due[each]);
        }
        for (int number = 0; number < 300; number++) {
            String street = Scene.smallStreet(number);
            DUE.is(street + ": best(false)", Due.street(street).best(false), bestByTrying(Due.street(street)));
        }
        MorningBill one = Due.street("S010EWEWEWEWN0152", "0");
        DUE.is("the hours of east wind that are left", one.best(false), 4 + 16 + 64);
        MorningBill last = Due.street("S019-------EN0192N0112");
        DUE.is("the last hour alone", last.best(false), 128);
        MorningBill rich = Due.street("S095--------N0190");
        DUE.is("what is baked at once lasts", rich.best(false), 1);
    }

    private static void p14_asBitsAndPennies() {
        DUE.sentence(14, "BEST, as bits (pennies = false), what comes by it (pennies = true).");
        MorningBill bill = Due.street("S012-------EN0152");
        DUE.is("best(false)", bill.best(false), 128);
        DUE.is("best(true)", bill.best(true), 3);
        DUE.is("best(false) of none left", Due.street("S090-N0190", "1").best(false), 0);
        DUE.is("best(true) of none left", Due.street("S090-N0190", "1").best(true), 0);
        DUE.is("best(false) of a new object", new MorningBill().best(false), 0);
        DUE.is("best(true) of a new object", new MorningBill().best(true), 0);
    }

    // ---- bestChimney

    private static int bestChimneyByTrying(MorningBill bill) {
        int most = bill.best(true);
        int found = NONE;
        for (int cell = 0; cell < 10; cell++) {
            bill.chimney(cell);
            if (bill.best(true) > most) {
                most = bill.best(true);
                found = cell;
            }
            bill.undo();
        }
        return found;
    }

    private static void p15_oneMoreOrOneLess() {
        DUE.sentence(15, "A CHIMNEY that is best: the CELL at which one more (or one less) now makes most come"
            + " by the BEST PLAN then;");
        for (String street : STREETS) {
            for (int gone = 0; gone < 8; gone++) {
                int due = bestChimneyByTrying(after(street, gone));
                DUE.is(street + " at " + gone + ": bestChimney()", after(street, gone).bestChimney(), due);
            }
        }
        DUE.is("one more at 9", Due.street("S890EEN8150N9193").bestChimney(), 9);
        DUE.is("one more at 0", Due.street("S190WWN1150N0193").bestChimney(), 0);
        for (int cell = 0; cell < 10; cell++) {
            MorningBill bill = Due.street("S" + cell + "10-N" + cell + "150");
            bill.chimney(cell);
            DUE.is("one less at " + cell, bill.bestChimney(), cell);
        }
    }

    private static void p15_ofLikeOnesTheLeast() {
        DUE.sentence(15, "of like ones the least;");
        MorningBill bill = Due.street("S190EEEEEEEEN1110N9193N8193N7193N6193");
        int due = bestChimneyByTrying(Due.street("S190EEEEEEEEN1110N9193N8193N7193N6193"));
        DUE.is("a row of like cells: bestChimney()", bill.bestChimney(), due);
        DUE.is("the first behind the baker", due, 2);
        MorningBill east = Due.street("S290EEEN2150N4193");
        DUE.is("3 and 4 are like", east.bestChimney(), 3);
        MorningBill west = Due.street("S790WWWN7150N5193");
        DUE.is("6 and 5 are like", west.bestChimney(), 5);
    }

    private static void p15_noneMoreThanWithout() {
        DUE.sentence(15, "NONE: by none more come than without.");
        DUE.is("none pays", Due.street("S090EEEEEEEE").bestChimney(), NONE);
        DUE.is("each is less or like", Due.street("S090EEEEEEEEN0190").bestChimney(), NONE);
        MorningBill built = Due.street("S290EEEN2150N4193");
        built.chimney(3);
        DUE.is("it is there", built.bestChimney(), NONE);
        MorningBill useless = Due.street("S090-N0190");
        useless.chimney(9);
        DUE.is("one less is like", useless.bestChimney(), NONE);
    }

    private static void p15_noneNoHourIsLeft() {
        DUE.sentence(15, "A CHIMNEY that is best; NONE (also: no HOUR is left).");
        DUE.is("of a new object", new MorningBill().bestChimney(), NONE);
        MorningBill bill = Due.street("S890EEEN8150N9193", "1");
        DUE.is("two hours are left", bill.bestChimney(), 9);
        bill.hour(true);
        DUE.is("one hour is left", bill.bestChimney(), 9);
        bill.hour(true);
        DUE.is("none is left", bill.bestChimney(), NONE);
    }

    // ---- share

    private static void shareIs(String when, MorningBill bill, int nose, Fraction due) {
        DUE.is(when + ": share(" + nose + ", true)", bill.share(nose, true), due.above());
        DUE.is(when + ": share(" + nose + ", false)", bill.share(nose, false), due.below());
    }

    /** What comes by the best plan on the street with some of its noses (bits) alone. */
    private static int worthOf(String street, int noses, int gone) {
        StringBuilder text = new StringBuilder(street.substring(0, 12));
        for (int nose = 0; 12 + 5 * nose < street.length(); nose++) {
            if ((noses >> nose & 1) == 1) {
                text.append(street, 12 + 5 * nose, 17 + 5 * nose);
            }
        }
        return after(text.toString(), gone).best(true);
    }

    /** What a nose adds when it comes, over all orders that go on from those that have come. */
    private static long added(int[] worth, int nose, int come, int count) {
        long sum = 0;
        for (int next = 0; next < count; next++) {
            if ((come >> next & 1) == 0) {
                int then = come | 1 << next;
                if (next == nose) {
                    sum += (long) (worth[then] - worth[come]) * orders(count - Integer.bitCount(then));
                } else {
                    sum += added(worth, nose, then, count);
                }
            }
        }
        return sum;
    }

    private static long orders(int count) {
        return count <= 1 ? 1 : count * orders(count - 1);
    }

    private static void p16_eachOrderAsLikely() {
        DUE.sentence(16, "SHARE of a NOSE: if NOSES come one by one, in each order as likely");
        for (String street : STREETS) {
            int count = (street.length() - 12) / 5;
            for (int gone = 0; gone <= 8; gone += 2) {
                int[] worth = new int[1 << count];
                for (int noses = 0; noses < worth.length; noses++) {
                    worth[noses] = worthOf(street, noses, gone);
                }
                MorningBill bill = after(street, gone);
                for (int nose = 0; nose < count; nose++) {
                    Fraction due = Fraction.of(added(worth, nose, 0, count), orders(count));
                    shareIs(street + " at " + gone, bill, nose, due);
                }
            }
        }
    }

    private static void p16_onlyThosePayOrGet() {
        DUE.sentence(16, "(only those that have come pay or get): by how much in the mean what comes by the"
            + " BEST PLAN is more when it has come than it was: a FRACTION.");
        shareIs("one alone", Due.street("S014-N0190"), 0, new Fraction(5, 1));
        shareIs("one alone, too dear", Due.street("S019-N0190"), 0, new Fraction(0, 1));
        shareIs("one alone that gets", Due.street("S019-N0191"), 0, new Fraction(-9, 1));
        MorningBill two = Due.street("S014-N0131N0190");
        shareIs("one that gets", two, 0, new Fraction(-3, 2));
        shareIs("one that pays", two, 1, new Fraction(13, 2));
        MorningBill six = Due.street("S091--------N0190N0190N0190N0190N0190N0190");
        for (int nose = 0; nose < 6; nose++) {
            shareIs("six that are like", six, nose, new Fraction(6 * 72 - 1, 6));
        }
        shareIs("by east wind", Due.street("S014EWN0192"), 0, new Fraction(5, 1));
        shareIs("by east wind", Due.street("S014W-N0192"), 0, new Fraction(0, 1));
        MorningBill gone = Due.street("S091-N0190", "1");
        shareIs("no hour is left", gone, 0, new Fraction(0, 1));
    }

    private static void p16_fractions() {
        DUE.sentence(16, "FRACTIONS are told above (upper = true; below 0, if they are), below (1 and more), in"
            + " least terms; refusals of them are told likewise.");
        shareIs("none", Due.street("S010-N9190"), 0, new Fraction(0, 1));
        shareIs("whole", Due.street("S010-N0190"), 0, new Fraction(9, 1));
        shareIs("whole, below none", Due.street("S010-N9191"), 0, new Fraction(-9, 1));
        shareIs("a half", Due.street("S014-N0130N0120"), 0, new Fraction(1, 2));
        shareIs("below none, a half", Due.street("S014-N0131N0190"), 0, new Fraction(-3, 2));
        shareIs("in least terms", Due.street("S014-N0120N0120N0120"), 0, new Fraction(2, 3));
        DUE.is("refused, above", Due.street("S010-").share(0, true), -1000001);
        DUE.is("refused, below", Due.street("S010-").share(0, false), -1000001);
    }

    private static void p16_unknown() {
        DUE.sentence(16, "SHARE. UNKNOWN.");
        String noses = "N0190N0190N0190N0190N0190N0190";
        for (int count = 0; count <= 6; count++) {
            MorningBill bill = Due.street("S010-" + noses.substring(0, 5 * count));
            int[] unknown = {-1, count, 6, 7, MIN, MAX};
            for (int nose : unknown) {
                DUE.is("share(" + nose + ", true) of " + count, bill.share(nose, true), UNKNOWN - LESS);
                DUE.is("share(" + nose + ", false) of " + count, bill.share(nose, false), UNKNOWN - LESS);
            }
            for (int nose = 0; nose < count; nose++) {
                DUE.is("share(" + nose + ", true) of " + count, bill.share(nose, true), 9);
            }
        }
    }

    // ---- judge

    private static void p17_hours1To8() {
        DUE.sentence(17, "JUDGED: n HOURS (1 to 8) from now on, told as figures (1 BAKED, 0 IDLE):");
        MorningBill bill = Due.street("S010--------");
        int ones = 0;
        for (int n = 1; n <= 8; n++) {
            ones = 10 * ones + 1;
            DUE.is("judge(" + n + ", " + ones + ")", bill.judge(n, ones), NONE);
            DUE.is("judge(" + n + ", 0)", bill.judge(n, 0), NONE);
        }
        int[] outside = {0, 9, 10, -1, MIN, MAX};
        for (int n : outside) {
            DUE.is("judge(" + n + ", 0)", bill.judge(n, 0), OUTSIDE);
            DUE.is("judge(" + n + ", 1)", bill.judge(n, 1), OUTSIDE);
        }
        MorningBill east = Due.street("S013E-E-E-E-N0152");
        DUE.is("the first figure is the first hour", east.judge(8, 10101010), NONE);
        DUE.is("the second one is the second", east.judge(8, 11101010), 1);
        east.hour(true);
        DUE.is("from now on", east.judge(7, 101010), NONE);
        DUE.is("from now on, the first one", east.judge(7, 1101010), 0);
    }

    private static void p17_anotherFigure() {
        DUE.sentence(17, "the place of the first that can not be (another figure; no HOUR is left),");
        MorningBill bill = Due.street("S010--------");
        for (int n = 1; n <= 8; n++) {
            int tens = 1;
            for (int place = n - 1; place >= 0; place--) {
                for (int figure = 0; figure <= 9; figure++) {
                    String call = "judge(" + n + ", " + figure * tens + ")";
                    DUE.is(call, bill.judge(n, figure * tens), figure > 1 ? place : NONE);
                }
                tens *= 10;
            }
        }
        DUE.is("the first of two", bill.judge(8, 10203040), 2);
        DUE.is("all", bill.judge(8, 99999999), 0);
    }

    private static void p17_noHourIsLeft() {
        DUE.sentence(17, "(another figure; no HOUR is left),");
        for (int winds = 0; winds <= 8; winds++) {
            for (int gone = 0; gone <= winds; gone++) {
                MorningBill bill = Due.street("S010" + "EW-EW-EW".substring(0, winds), idle(gone));
                for (int n = 1; n <= 8; n++) {
                    String call = "judge(" + n + ", 0), " + gone + " of " + winds + " gone";
                    DUE.is(call, bill.judge(n, 0), n <= winds - gone ? NONE : winds - gone);
                }
            }
        }
        MorningBill two = Due.street("S010--");
        DUE.is("another figure before that", two.judge(4, 2000), 0);
        DUE.is("another figure at that", two.judge(4, 20), 2);
        DUE.is("another figure behind that", two.judge(4, 2), 2);
    }

    private static void p17_lessThanNoPennies() {
        DUE.sentence(17, "or by which less than no PENNIES come;");
        for (int cost = 0; cost <= 9; cost++) {
            MorningBill bill = Due.street("S01" + cost + "--N0150");
            DUE.is("5 come, " + cost + " go: judge(1, 1)", bill.judge(1, 1), cost > 5 ? 0 : NONE);
            DUE.is("5 come, " + cost + " go: judge(2, 1)", bill.judge(2, 1), cost > 5 ? 1 : NONE);
            DUE.is("5 come, " + cost + " go: judge(2, 0)", bill.judge(2, 0), NONE);
        }
        MorningBill back = Due.street("S010--N0190N0141");
        DUE.is("more than enough came before", back.judge(2, 10), 1);
        DUE.is("less comes before", back.judge(2, 1), 0);
        DUE.is("before another figure", back.judge(2, 2), 0);
        DUE.is("behind another figure", back.judge(2, 20), 0);
        MorningBill chimney = Due.street("S013--N0150");
        DUE.is("without a chimney", chimney.judge(2, 11), NONE);
        chimney.chimney(0);
        DUE.is("with a chimney", chimney.judge(2, 11), 0);
        MorningBill poor = Due.street("S019---", "1");
        DUE.is("what went before does not count", poor.judge(2, 0), NONE);
    }

    private static void p17_noneNone() {
        DUE.sentence(17, "JUDGED; NONE.");
        DUE.is("all eight", Due.street("S015EEEEEEEEN0150").judge(8, 11111111), NONE);
        DUE.is("all eight idle", Due.street("S019EEEEEEEE").judge(8, 0), NONE);
        DUE.is("one", Due.street("S010-").judge(1, 1), NONE);
        DUE.is("of a new object", new MorningBill().judge(1, 0), 0);
    }

    private static void p17_rowOfNFiguresAtMost() {
        DUE.sentence(17, "OUTSIDE: n, row (0 or more, n figures at most).");
        MorningBill bill = Due.street("S010--------");
        int tens = 1;
        for (int n = 1; n <= 8; n++) {
            tens *= 10;
            DUE.is("judge(" + n + ", " + (tens - 1) + ")", bill.judge(n, tens - 1), 0);
            DUE.is("judge(" + n + ", " + tens + ")", bill.judge(n, tens), OUTSIDE);
            DUE.is("judge(" + n + ", " + (tens + 1) + ")", bill.judge(n, tens + 1), OUTSIDE);
            DUE.is("judge(" + n + ", MAX)", bill.judge(n, MAX), OUTSIDE);
            DUE.is("judge(" + n + ", -1)", bill.judge(n, -1), OUTSIDE);
            DUE.is("judge(" + n + ", MIN)", bill.judge(n, MIN), OUTSIDE);
            DUE.is("judge(" + n + ", 0)", bill.judge(n, 0), NONE);
            DUE.is("judge(" + n + ", 1)", bill.judge(n, 1), NONE);
        }
        DUE.is("judge(0, -1): n is outside too", bill.judge(0, -1), OUTSIDE);
        DUE.is("judge(1, 10) with no hour left", new MorningBill().judge(1, 10), OUTSIDE);
    }

    // ---- had and only

    private static void p18_hadInSomeHourThatIsLeft() {
        DUE.sentence(18, "HAD by a PLAN: NOSES (bits) that have it in some HOUR that is left.");
        for (String street : STREETS) {
            for (int gone = 0; gone <= 8; gone++) {
                for (int plan = 0; plan < 256; plan += 17) {
                    MorningBill bill = after(street, gone);
                    int due = 0;
                    for (int hour = gone; hour < 8; hour++) {
                        due |= bill.hour((plan >> hour & 1) == 1);
                    }
                    DUE.is(street + " at " + gone + ": had(" + plan + ")", after(street, gone).had(plan), due);
                }
            }
        }
        MorningBill six = Due.street("S010-N0100N0100N0100N0100N0100N0100");
        DUE.is("had(1): all six", six.had(1), 63);
        DUE.is("had(254): none of six", six.had(254), 0);
        six.hour(true);
        DUE.is("had(255): those that have it now, but in no hour left", six.had(255), 0);
        MorningBill still = Due.street("S020--N0110", "1");
        DUE.is("had(0): by what was baked before", still.had(0), 1);
    }

    private static void p18_outsidePlan() {
        DUE.sentence(18, "HAD, as bits. OUTSIDE: plan.");
        MorningBill bill = Due.street("S010-------EN0110");
        DUE.is("had(0)", bill.had(0), 0);
        DUE.is("had(255)", bill.had(255), 1);
        DUE.is("had(128)", bill.had(128), 1);
        int[] outside = {-1, 256, 384, -128, MIN, MAX};
        for (int plan : outside) {
            DUE.is("had(" + plan + ")", bill.had(plan), OUTSIDE);
            DUE.is("had(" + plan + ") of a new object", new MorningBill().had(plan), OUTSIDE);
        }
        DUE.is("had(0) of a new object", new MorningBill().had(0), 0);
        DUE.is("had(255) of a new object", new MorningBill().had(255), 0);
    }

    private static void p19_justTheTold() {
        DUE.sentence(19, "ONLY for told NOSES (bits): the PLAN of fewest HOURS (of like ones the least by bits)"
            + " by which just the told ones have it in some HOUR left; NONE.");
        for (String street : STREETS) {
            for (int gone = 0; gone <= 8; gone += 2) {
                onlyByTrying(street, gone);
            }
        }
        for (int number = 0; number < 100; number++) {
            onlyByTrying(Scene.smallStreet(number), 0);
        }
    }

    private static void onlyByTrying(String street, int gone) {
        MorningBill bill = after(street, gone);
        MorningBill tried = after(street, gone);
        int groups = 1 << bill.count(2);
        int[] due = new int[groups];
        Arrays.fill(due, NONE);
        for (int plan : plansLeft(tried)) {
            int noses = tried.had(plan);
            due[noses] = due[noses] == NONE ? plan : due[noses];
        }
        for (int noses = 0; noses < groups; noses++) {
            DUE.is(street + " at " + gone + ": only(" + noses + ")", bill.only(noses), due[noses]);
        }
    }

    private static void p19_fewestHoursThenLeastBits() {
        DUE.sentence(19, "the PLAN of fewest HOURS (of like ones the least by bits)");
        MorningBill bill = Due.street("S010--------N0110");
        DUE.is("none is told", bill.only(0), 0);
        DUE.is("the least by bits", bill.only(1), 1);
        bill.hour(false);
        DUE.is("the least by bits that is left", bill.only(1), 2);
        MorningBill fewest = Due.street("S620W--EN7180");
        DUE.is("had(3)", fewest.had(3), 1);
        DUE.is("fewer hours go before less bits", fewest.only(1), 4);
        DUE.is("6 is less than 9", Due.street("S350WW-EEEN3603").only(1), 6);
        DUE.is("6 is less than 9", Due.street("S541WE-WN5530").only(1), 6);
        DUE.is("one of 8 is fewer than two of 6", Due.street("S531-W--EN6221").only(1), 8);
        DUE.is("two of 5 are fewer than three of 7", Due.street("S343-EWEEEN4501N6111").only(3), 5);
        DUE.is("two of 10 are fewer than three of 7", Due.street("S550EWEWWEN4631N6400").only(3), 10);
        MorningBill all = Due.street("S920--------N9910");
        DUE.is("all eight hours", all.only(1), 255);
    }

    private static void p19_none() {
        DUE.sentence(19, "ONLY, as bits; NONE.");
        MorningBill like = Due.street("S010--N0110N0110");
        DUE.is("one of two that are like", like.only(1), NONE);
        DUE.is("the other of two that are like", like.only(2), NONE);
        DUE.is("both", like.only(3), 1);
        MorningBill there = Due.street("S020--N0110", "1");
        DUE.is("none, but what is there can't be helped", there.only(0), NONE);
        DUE.is("by what is there", there.only(1), 0);
        MorningBill gone = Due.street("S020-N0110", "1");
        DUE.is("no hour is left, none is told", gone.only(0), 0);
        DUE.is("no hour is left, one is told", gone.only(1), NONE);
        DUE.is("of a new object", new MorningBill().only(0), 0);
    }

    private static void p19_outsideNoses() {
        DUE.sentence(19, "OUTSIDE: noses (bits of NOSES that there are).");
        String noses = "N0110N0110N0110N0110N0110N0110";
        for (int count = 0; count <= 6; count++) {
            MorningBill bill = Due.street("S010-" + noses.substring(0, 5 * count));
            int all = (1 << count) - 1;
            DUE.is("only(" + all + ") of " + count, bill.only(all), count == 0 ? 0 : 1);
            int[] outside = {all + 1, 1 << count | 1, 64, 128, -1, -all - 1, MIN, MAX};
            for (int told : outside) {
                DUE.is("only(" + told + ") of " + count, bill.only(told), OUTSIDE);
            }
        }
    }
}
