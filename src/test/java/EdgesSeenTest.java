/**
 * Promises 20 to 22 at their edges: one test for each sentence that names a boundary. A test's name begins with
 * the promise's number, the sentence is told in its first line.
 */
public final class EdgesSeenTest {
    private static final Due DUE = new Due("EdgesSeenTest");
    private static final int UNKNOWN = -1;
    private static final int OUTSIDE = -2;
    private static final int FULL = -4;
    private static final int NONE = -99;
    private static final int MIN = Integer.MIN_VALUE;
    private static final int MAX = Integer.MAX_VALUE;
    private static final String SIX = "N0110N0210N0310N1110N1210N9110";

    public static void main(String[] args) {
        p20_hadItInAnHour0To7();
        p20_sixAtMostNoneAtFirst();
        p20_howManyThereAre();
        p20_unknown();
        p20_outsideHour();
        p20_full6();
        p21_nothingIsSeen();
        p21_howManyThereWere();
        p22_nosesHoursThatThereAreNot();
        p22_fromTheBeginningWithoutChimneys();
        p22_allAndNoneByActs();
        p22_howMany();
        p22_hoursOfAll();
        p22_hoursOfNone();
        p22_noneThereIsNone();
        p22_outside();
        DUE.end();
    }

    private static void whenIs(String what, MorningBill bill, int plans, int all, int none) {
        DUE.is(what + ": when(0)", bill.when(0), plans);
        DUE.is(what + ": when(1)", bill.when(1), all);
        DUE.is(what + ": when(2)", bill.when(2), none);
    }

    // ---- see and unsee

    private static void p20_hadItInAnHour0To7() {
        DUE.sentence(20, "SEEN: that a NOSE had it in an HOUR (0 to 7), or had it not:");
        for (int hour = 0; hour <= 7; hour++) {
            MorningBill bill = Due.street("S010--------N0110");
            DUE.is("see(0, " + hour + ", true)", bill.see(0, hour, true), 1);
            whenIs("had it at " + hour, bill, 128, 1 << hour, 0);
            bill.unsee();
            DUE.is("see(0, " + hour + ", false)", bill.see(0, hour, false), 1);
            whenIs("had it not at " + hour, bill, 128, 0, 1 << hour);
        }
        for (int nose = 0; nose < 6; nose++) {
            MorningBill bill = Due.street("S010-N1110N2110N3110N4110N5110N6110".replace("N" + (nose + 1), "N0"));
            bill.see(nose, 0, true);
            whenIs("nose " + nose + " had it", bill, 1, 1, 0);
        }
    }

    private static void p20_sixAtMostNoneAtFirst() {
        DUE.sentence(20, "6 such at most, none at first");
        DUE.is("count(10) of a new object", new MorningBill().count(10), 0);
        DUE.is("unsee() of a new object", new MorningBill().unsee(), 0);
        MorningBill bill = Due.street("S010--------N0110");
        whenIs("none", bill, 256, 0, 0);
        for (int size = 1; size <= 6; size++) {
            DUE.is("see " + size, bill.see(0, size, true), size);
            DUE.is("count(10)", bill.count(10), size);
            whenIs("seen " + size, bill, 256 >> size, (2 << size) - 2, 0);
        }
        DUE.is("see the seventh", bill.see(0, 7, true), FULL);
        whenIs("the seventh is not looked at", bill, 4, 126, 0);
    }

    private static void p20_howManyThereAre() {
        DUE.sentence(20, "SEEN: how many there are.");
        MorningBill bill = Due.street("S010--N0110");
        DUE.is("see", bill.see(0, 0, true), 1);
        DUE.is("the same again is one more", bill.see(0, 0, true), 2);
        DUE.is("the contrary is one more", bill.see(0, 0, false), 3);
        DUE.is("an hour that there is not", bill.see(0, 7, false), 4);
        DUE.is("see refused", bill.see(1, 0, false), UNKNOWN);
        DUE.is("see", bill.see(0, 1, false), 5);
        DUE.is("count(10)", bill.count(10), 5);
    }

    private static void p20_unknown() {
        DUE.sentence(20, "UNKNOWN; OUTSIDE: hour;");
        for (int count = 0; count <= 6; count++) {
            MorningBill bill = Due.street("S010-" + SIX.substring(0, 5 * count));
            int[] unknown = {-1, count, 6, 7, MIN, MAX};
            for (int nose : unknown) {
                DUE.is("see(" + nose + ", 0, true) of " + count, bill.see(nose, 0, true), UNKNOWN);
                DUE.is("see(" + nose + ", 7, false) of " + count, bill.see(nose, 7, false), UNKNOWN);
            }
            DUE.is("count(10)", bill.count(10), 0);
            for (int nose = 0; nose < count; nose++) {
                DUE.is("see(" + nose + ", 0, true) of " + count, bill.see(nose, 0, true), nose + 1);
            }
        }
    }

    private static void p20_outsideHour() {
        DUE.sentence(20, "OUTSIDE: hour;");
        String[] streets = {"S010N0110", "S010-N0110", "S010--------N0110"};
        for (String street : streets) {
            MorningBill bill = Due.street(street);
            int[] outside = {-1, 8, 9, MIN, MAX};
            for (int hour : outside) {
                DUE.is(street + ": see(0, " + hour + ", true)", bill.see(0, hour, true), OUTSIDE);
                DUE.is(street + ": see(0, " + hour + ", false)", bill.see(0, hour, false), OUTSIDE);
            }
            DUE.is("count(10)", bill.count(10), 0);
            DUE.is(street + ": see(0, 0, true)", bill.see(0, 0, true), 1);
            DUE.is(street + ": see(0, 7, true)", bill.see(0, 7, true), 2);
        }
    }

    private static void p20_full6() {
        DUE.sentence(20, "FULL: 6.");
        MorningBill bill = Due.street("S010--------N0110");
        for (int size = 1; size <= 5; size++) {
            bill.see(0, 0, true);
        }
        DUE.is("see the sixth", bill.see(0, 1, false), 6);
        for (int time = 0; time < 3; time++) {
            DUE.is("see the seventh", bill.see(0, 7, true), FULL);
            DUE.is("see what was seen", bill.see(0, 0, true), FULL);
        }
        DUE.is("count(10)", bill.count(10), 6);
        whenIs("as six are", bill, 64, 1, 2);
        DUE.is("unsee()", bill.unsee(), 6);
        DUE.is("see then", bill.see(0, 7, true), 1);
        whenIs("as one is", bill, 128, 128, 0);
    }

    private static void p21_nothingIsSeen() {
        DUE.sentence(21, "Nothing is SEEN:");
        MorningBill bill = Due.street("S010--N0110");
        for (int size = 0; size < 6; size++) {
            bill.see(0, 0, size % 2 == 0);
        }
        whenIs("contrary", bill, 0, NONE, NONE);
        bill.unsee();
        DUE.is("count(10)", bill.count(10), 0);
        whenIs("nothing", bill, 4, 0, 0);
        bill.see(0, 1, true);
        whenIs("of the old ones none is left", bill, 2, 2, 0);
    }

    private static void p21_howManyThereWere() {
        DUE.sentence(21, "how many there were.");
        MorningBill bill = Due.street("S010--N0110");
        for (int size = 0; size <= 7; size++) {
            for (int each = 0; each < size; each++) {
                bill.see(0, each, true);
            }
            DUE.is("unsee() of " + size, bill.unsee(), Math.min(size, 6));
            DUE.is("unsee() again", bill.unsee(), 0);
        }
    }

    // ---- when

    private static void p22_nosesHoursThatThereAreNot() {
        DUE.sentence(22, "(of NOSES, HOURS that there are not nothing is looked at).");
        MorningBill bill = Due.street("S010--N0110");
        for (int hour = 2; hour <= 7; hour++) {
            bill.see(0, hour, hour % 2 == 0);
        }
        whenIs("hours that there are not", bill, 4, 0, 0);
        Due.write(bill, "S010--------N0110");
        bill.street();
        whenIs("there they are", bill, 4, 4 + 16 + 64, 8 + 32 + 128);
        Due.write(bill, "S010---N0110");
        bill.street();
        whenIs("the last one that there is", bill, 4, 4, 0);
        Due.write(bill, "S010--------");
        bill.street();
        whenIs("a nose that there is not", bill, 256, 0, 0);
        bill = Due.street("S010-N1110N0110");
        bill.see(1, 0, true);
        bill.see(0, 0, true);
        whenIs("noses that there are", bill, 0, NONE, NONE);
        Due.write(bill, "S010-N0110");
        bill.street();
        whenIs("only one of them is there", bill, 1, 1, 0);
        DUE.is("see(1, ..) is refused then", bill.see(1, 0, true), UNKNOWN);
    }

    private static void p22_fromTheBeginningWithoutChimneys() {
        DUE.sentence(22, "WHEN: PLANS of all HOURS, from the beginning on without CHIMNEYS, by which all that"
            + " is SEEN is so:");
        MorningBill bill = Due.street("S020---N0110");
        bill.see(0, 1, true);
        bill.see(0, 2, false);
        whenIs("at the beginning", bill, 1, 1, 6);
        for (int cell = 0; cell < 10; cell++) {
            bill.chimney(cell);
        }
        whenIs("with all chimneys", bill, 1, 1, 6);
        bill.hour(false);
        whenIs("an hour on", bill, 1, 1, 6);
        bill.hour(true);
        bill.hour(true);
        whenIs("at the end", bill, 1, 1, 6);
        for (int baker = 0; baker < 10; baker++) {
            bill = Due.street("S" + baker + "20---N" + baker + "110", "11");
            bill.see(0, 1, false);
            bill.bestChimney();
            whenIs("not from the smell that is there", bill, 2, 0, 3);
            bill.bakers(baker, 0);
            whenIs("not from the smell that is there", bill, 2, 0, 3);
        }
    }

    /** Each plan is acted; those by which nose and hour were as told are counted. */
    private static void p22_allAndNoneByActs() {
        DUE.sentence(22, "how many; HOURS (bits) of all, of none.");
        int[][] has = new int[256][8];
        for (int plan = 0; plan < 256; plan++) {
            MorningBill acted = Due.street(Scene.STREET);
            for (int hour = 0; hour < 8; hour++) {
                has[plan][hour] = acted.hour((plan >> hour & 1) == 1);
            }
        }
        for (int like = 0; like < 256; like++) {
            MorningBill bill = Due.street(Scene.STREET, "101");
            int[][] sights = new int[like % 7][];
            for (int sight = 0; sight < sights.length; sight++) {
                int nose = (like + sight * 5) % 6;
                int hour = (like / 7 + sight * 3) % 8;
                int told = sight == 5 ? 1 : has[like][hour] >> nose & 1;
                sights[sight] = new int[] {nose, hour, told};
                bill.see(nose, hour, told == 1);
            }
            int plans = 0;
            int all = 255;
            int none = 255;
            for (int plan = 0; plan < 256; plan++) {
                if (isSo(has[plan], sights)) {
                    plans++;
                    all &= plan;
                    none &= ~plan;
                }
            }
            whenIs("as plan " + like, bill, plans, plans == 0 ? NONE : all, plans == 0 ? NONE : none);
        }
    }

    private static boolean isSo(int[] has, int[][] sights) {
        for (int[] sight : sights) {
            if ((has[sight[1]] >> sight[0] & 1) != sight[2]) {
                return false;
            }
        }
        return true;
    }

    private static void p22_howMany() {
        DUE.sentence(22, "WHEN: how many (what = 0),");
        for (int winds = 0; winds <= 8; winds++) {
            MorningBill bill = Due.street("S010" + "--------".substring(0, winds) + "N0110");
            whenIs(winds + " hours, nothing seen", bill, 1 << winds, 0, 0);
            for (int hour = 0; hour < winds && hour < 6; hour++) {
                bill.see(0, hour, true);
            }
            int sure = Math.min(winds, 6);
            whenIs(winds + " hours, seen", bill, 1 << (winds - sure), (1 << sure) - 1, 0);
        }
        DUE.is("when(0) of a new object", new MorningBill().when(0), 1);
    }

    private static void p22_hoursOfAll() {
        DUE.sentence(22, "HOURS of all (1),");
        MorningBill bill = Due.street("S090--------N0910");
        bill.see(0, 7, true);
        whenIs("it may come from before", bill, byTrying(7, 9), 0, 0);
        bill = Due.street("S910--------N9910");
        bill.see(0, 7, false);
        whenIs("never strong enough", bill, 256, 0, 0);
        bill = Due.street("S020--------N0910");
        bill.see(0, 7, true);
        whenIs("all eight hours", bill, 1, 255, 0);
        bill = Due.street("S010-N0110");
        bill.see(0, 0, true);
        whenIs("the only hour", bill, 1, 1, 0);
    }

    /** How many of 256 plans make it so strong in an hour, where nothing blows and 9 are baked. */
    private static int byTrying(int hour, int wants) {
        int plans = 0;
        for (int plan = 0; plan < 256; plan++) {
            int smell = 0;
            for (int each = 0; each <= hour; each++) {
                smell = Math.max(0, smell - 1) + ((plan >> each & 1) == 1 ? 9 : 0);
            }
            plans += smell >= wants ? 1 : 0;
        }
        return plans;
    }

    private static void p22_hoursOfNone() {
        DUE.sentence(22, "of none (2), as bits;");
        MorningBill bill = Due.street("S090--------N0110");
        bill.see(0, 7, false);
        whenIs("all eight hours", bill, 1, 0, 255);
        bill.unsee();
        bill.see(0, 6, false);
        whenIs("all but the last", bill, 2, 0, 127);
        bill = Due.street("S090---N0110");
        bill.see(0, 2, false);
        whenIs("only hours that there are", bill, 1, 0, 7);
        bill.unsee();
        bill.see(0, 0, false);
        bill.see(0, 1, true);
        whenIs("one of none, one of all", bill, 2, 2, 1);
    }

    private static void p22_noneThereIsNone() {
        DUE.sentence(22, "NONE (of 1, 2): there is none.");
        MorningBill bill = Due.street("S010--------N0110N0210");
        bill.see(0, 3, true);
        bill.see(0, 3, false);
        whenIs("contrary", bill, 0, NONE, NONE);
        bill.unsee();
        bill.see(1, 0, true);
        whenIs("never so strong", bill, 0, NONE, NONE);
        bill.unsee();
        bill.see(1, 0, false);
        whenIs("always so", bill, 256, 0, 0);
    }

    private static void p22_outside() {
        DUE.sentence(22, "NONE (of 1, 2): there is none. OUTSIDE.");
        MorningBill bill = Due.street("S010-N0110");
        int[] outside = {-1, 3, 4, MIN, MAX};
        for (int what : outside) {
            DUE.is("when(" + what + ")", bill.when(what), OUTSIDE);
            DUE.is("when(" + what + ") of a new object", new MorningBill().when(what), OUTSIDE);
        }
        bill.see(0, 0, true);
        bill.see(0, 0, false);
        DUE.is("when(3), there is none", bill.when(3), OUTSIDE);
        DUE.is("when(-1), there is none", bill.when(-1), OUTSIDE);
    }
}
