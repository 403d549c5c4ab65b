/** Promises 13 to 19: by, best, bestChimney, share, judge, had, only. */
public final class PlansTest {
    private static final Due DUE = new Due("PlansTest");
    private static final int NONE = -99;
    private static final String PLAIN = "S051E-WN0320";

    public static void main(String[] args) {
        byPlans();
        byFromNowOn();
        bestPlans();
        bestOfLikeOnes();
        bestChimneys();
        sharesOfFew();
        sharesBelowNone();
        sharesFromNowOn();
        judged();
        judgedHourByHour();
        hadByPlans();
        onlyTold();
        nothingIsChanged();
        DUE.end();
    }

    private static void byPlans() {
        MorningBill bill = Due.street(PLAIN);
        int[] due = {0, 3, 1, 2, 1, 4, 2, 3};
        for (int plan = 0; plan < 256; plan++) {
            DUE.is("by(" + plan + ")", bill.by(plan), due[plan & 7]);
        }
        DUE.is("by(-1)", bill.by(-1), -1000002);
        DUE.is("by(256)", bill.by(256), -1000002);
        DUE.is("by(MIN)", bill.by(Integer.MIN_VALUE), -1000002);
        DUE.is("by(MAX)", bill.by(Integer.MAX_VALUE), -1000002);
    }

    private static void byFromNowOn() {
        MorningBill bill = Due.street(PLAIN);
        bill.hour(true);
        DUE.is("by(0) at 1: what was baked is still there", bill.by(0), 2);
        DUE.is("by(1) at 1: that hour is gone", bill.by(1), 2);
        DUE.is("by(4) at 1", bill.by(4), 3);
        bill.chimney(0);
        DUE.is("by(4) at 1 with a chimney", bill.by(4), -1);
        bill.undo();
        bill.hour(false);
        bill.hour(true);
        DUE.is("by(255) at 3", bill.by(255), 0);
    }

    private static void bestPlans() {
        MorningBill bill = Due.street(PLAIN);
        DUE.is("best(false)", bill.best(false), 5);
        DUE.is("best(true)", bill.best(true), 4);
        bill.hour(false);
        DUE.is("best(false) at 1", bill.best(false), 6);
        DUE.is("best(true) at 1", bill.best(true), 2);
        bill.hour(false);
        bill.hour(false);
        DUE.is("best(false) at 3", bill.best(false), 0);
        DUE.is("best(true) at 3", bill.best(true), 0);
        MorningBill poor = Due.street("S019EN9191");
        DUE.is("best(false), below none", poor.best(false), 0);
        DUE.is("best(true), below none", poor.best(true), -9);
    }

    private static void bestOfLikeOnes() {
        MorningBill bill = Due.street("S022---N0120");
        DUE.is("by(1)", bill.by(1), 2);
        DUE.is("by(2)", bill.by(2), 2);
        DUE.is("by(3)", bill.by(3), 2);
        DUE.is("by(5)", bill.by(5), 2);
        DUE.is("best(false): fewest hours, then least bits", bill.best(false), 1);
        DUE.is("best(true)", bill.best(true), 2);
        DUE.is("best(false): nothing pays", Due.street("S010EEEEEEEE").best(false), 0);
        MorningBill fewest = Due.street("S620W--EN7180");
        DUE.is("by(3)", fewest.by(3), 8);
        DUE.is("by(4)", fewest.by(4), 8);
        DUE.is("best(false): fewer hours go before less bits", fewest.best(false), 4);
    }

    private static void bestChimneys() {
        MorningBill bill = Due.street("S290EEEN2150N4193");
        DUE.is("best(true) without", bill.best(true), 10);
        DUE.is("bestChimney(): the least of like ones", bill.bestChimney(), 3);
        bill.chimney(3);
        DUE.is("best(true) with it", bill.best(true), 15);
        DUE.is("bestChimney(): none is better", bill.bestChimney(), NONE);
        bill.chimney(2);
        DUE.is("best(true) with one at the baker", bill.best(true), 0);
        DUE.is("bestChimney(): one less", bill.bestChimney(), 2);
        bill.hour(false);
        bill.hour(false);
        bill.hour(false);
        DUE.is("bestChimney(): no hour is left", bill.bestChimney(), NONE);
        DUE.is("CHIMNEYS stay", bill.count(7), 12);
    }

    private static void share(MorningBill bill, int nose, int above, int below) {
        DUE.is("share(" + nose + ", true)", bill.share(nose, true), above);
        DUE.is("share(" + nose + ", false)", bill.share(nose, false), below);
    }

    private static void sharesOfFew() {
        share(Due.street("S010-N0130"), 0, 3, 1);
        MorningBill two = Due.street("S014-N0130N0130");
        share(two, 0, 1, 1);
        share(two, 1, 1, 1);
        MorningBill half = Due.street("S014-N0130N0120");
        share(half, 0, 1, 2);
        share(half, 1, 1, 2);
        MorningBill three = Due.street("S014-N0120N0120N0120");
        share(three, 0, 2, 3);
        share(three, 1, 2, 3);
        share(three, 2, 2, 3);
        MorningBill six = Due.street("S019-N0120N0120N0120N0120N0120N0120");
        share(six, 5, 1, 2);
        share(six, 0, 1, 2);
    }

    private static void sharesBelowNone() {
        MorningBill bill = Due.street("S014-N0131N0190");
        share(bill, 0, -3, 2);
        share(bill, 1, 13, 2);
        DUE.is("share(2, true)", bill.share(2, true), -1000001);
        DUE.is("share(2, false)", bill.share(2, false), -1000001);
        DUE.is("share(-1, true)", bill.share(-1, true), -1000001);
        DUE.is("share(MIN, true)", bill.share(Integer.MIN_VALUE, true), -1000001);
        DUE.is("share(MAX, false)", bill.share(Integer.MAX_VALUE, false), -1000001);
    }

    private static void sharesFromNowOn() {
        MorningBill bill = Due.street("S030--N0130N1131");
        bill.hour(true);
        share(bill, 0, 3, 1);
        share(bill, 1, -3, 1);
        bill.hour(false);
        share(bill, 0, 0, 1);
        share(bill, 1, 0, 1);
    }

    private static void judged() {
        MorningBill bill = Due.street(PLAIN);
        DUE.is("judge(3, 101)", bill.judge(3, 101), NONE);
        DUE.is("judge(3, 0)", bill.judge(3, 0), NONE);
        DUE.is("judge(1, 1)", bill.judge(1, 1), NONE);
        DUE.is("judge(3, 120)", bill.judge(3, 120), 1);
        DUE.is("judge(3, 910)", bill.judge(3, 910), 0);
        DUE.is("judge(3, 2)", bill.judge(3, 2), 2);
        DUE.is("judge(4, 1010)", bill.judge(4, 1010), 3);
        DUE.is("judge(8, 0)", bill.judge(8, 0), 3);
        DUE.is("judge(4, 13)", bill.judge(4, 13), 3);
        DUE.is("judge(8, 99999999)", bill.judge(8, 99999999), 0);
        int[][] outside = {{0, 0}, {-1, 0}, {9, 0}, {1, 10}, {2, 100}, {3, -1}, {8, 100000000}, {0, -1},
            {Integer.MIN_VALUE, 0}, {Integer.MAX_VALUE, 0}, {8, Integer.MAX_VALUE}, {8, Integer.MIN_VALUE}};
        for (int[] told : outside) {
            DUE.is("judge(" + told[0] + ", " + told[1] + ")", bill.judge(told[0], told[1]), -2);
        }
        bill.hour(true);
        DUE.is("judge(2, 1) at 1", bill.judge(2, 1), NONE);
        DUE.is("judge(3, 10) at 1", bill.judge(3, 10), 2);
        bill.chimney(0);
        DUE.is("judge(2, 1) at 1 with a chimney", bill.judge(2, 1), 1);
    }

    private static void judgedHourByHour() {
        MorningBill bill = Due.street("S010--N0190N0131");
        DUE.is("judge(2, 10): 9 come, then 3 go", bill.judge(2, 10), 1);
        DUE.is("judge(2, 11)", bill.judge(2, 11), NONE);
        DUE.is("judge(2, 1)", bill.judge(2, 1), 0);
        MorningBill dear = Due.street("S019--");
        DUE.is("judge(2, 1): it costs", dear.judge(2, 1), 1);
        DUE.is("judge(2, 0): nothing comes", dear.judge(2, 0), NONE);
        dear.hour(true);
        DUE.is("judge(1, 0): what has been does not count", dear.judge(1, 0), NONE);
    }

    private static void hadByPlans() {
        MorningBill bill = Due.street("S430EEN4310N5220N6110");
        DUE.is("had(0)", bill.had(0), 0);
        DUE.is("had(1)", bill.had(1), 3);
        DUE.is("had(2)", bill.had(2), 1);
        DUE.is("had(3)", bill.had(3), 3);
        DUE.is("had(255)", bill.had(255), 3);
        DUE.is("had(-1)", bill.had(-1), -2);
        DUE.is("had(256)", bill.had(256), -2);
        DUE.is("had(MIN)", bill.had(Integer.MIN_VALUE), -2);
        bill.hour(true);
        DUE.is("had(0) at 1: not those that had it before", bill.had(0), 2);
        DUE.is("had(1) at 1", bill.had(1), 2);
        DUE.is("had(2) at 1", bill.had(2), 3);
        bill.hour(true);
        DUE.is("had(255) at 2", bill.had(255), 0);
    }

    private static void onlyTold() {
        MorningBill bill = Due.street("S430EEN4310N5220N6110");
        DUE.is("only(0)", bill.only(0), 0);
        DUE.is("only(1)", bill.only(1), 2);
        DUE.is("only(2)", bill.only(2), NONE);
        DUE.is("only(3)", bill.only(3), 1);
        DUE.is("only(7)", bill.only(7), NONE);
        DUE.is("only(8)", bill.only(8), -2);
        DUE.is("only(-1)", bill.only(-1), -2);
        DUE.is("only(MIN)", bill.only(Integer.MIN_VALUE), -2);
        DUE.is("only(MAX)", bill.only(Integer.MAX_VALUE), -2);
        MorningBill like = Due.street("S010--N0110");
        DUE.is("only(1): the least by bits", like.only(1), 1);
        like.hour(false);
        DUE.is("only(1) at 1", like.only(1), 2);
        like.hour(false);
        DUE.is("only(1) at 2", like.only(1), NONE);
        DUE.is("only(0) at 2", like.only(0), 0);
        MorningBill fewest = Due.street("S620W--EN7180");
        DUE.is("had(3)", fewest.had(3), 1);
        DUE.is("only(1): fewer hours go before less bits", fewest.only(1), 4);
        MorningBill left = Due.street("S030--N0110");
        left.hour(true);
        DUE.is("only(0): the smell that is there can't be helped", left.only(0), NONE);
    }

    private static void nothingIsChanged() {
        MorningBill bill = Due.street("S430E-WWEN4310N5223N6110N3151");
        bill.hour(true);
        bill.chimney(3);
        String before = Due.state(bill);
        bill.by(255);
        bill.best(true);
        bill.bestChimney();
        bill.share(1, true);
        bill.judge(4, 1101);
        bill.had(9);
        bill.only(5);
        DUE.holds("nothing is changed by plans", before.equals(Due.state(bill)));
    }
}
