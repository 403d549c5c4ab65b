/**
 * What only asks changes nothing, in any state, at the ends of what may be asked: the calls after it answer as if
 * it had not been. A test's name begins with the promise's number.
 */
public final class AskedTest {
    private static final Due DUE = new Due("AskedTest");
    private static final String NOTHING = "In what follows nothing is changed.";

    public static void main(String[] args) {
        p04_faultOnlyAsks();
        p06_smellOnlyAsks();
        p07_windOnlyAsks();
        p08_noseOnlyAsks();
        p09_penniesOnlyAsks();
        p13_byChangesNothing();
        p14_bestChangesNothing();
        p15_bestChimneyChangesNothing();
        p16_shareChangesNothing();
        p17_judgeChangesNothing();
        p18_hadChangesNothing();
        p19_onlyChangesNothing();
        p22_whenChangesNothing();
        p23_meanChangesNothing();
        p24_fairChangesNothing();
        p25_bakersChangesNothing();
        p27_nothingChangesButTheSeed();
        p30_countOnlyAsks();
        p13_eachAnswersTheSameAgain();
        DUE.end();
    }

    private static void asked(String call, Future.Ask ask) {
        for (Scene scene : Scene.all()) {
            MorningBill asked = scene.make();
            long answer = ask.of(asked);
            String difference = Future.difference(scene.make(), asked);
            DUE.holds(scene + ": after " + call + " = " + answer + " came " + difference, difference.isEmpty());
        }
    }

    private static void p04_faultOnlyAsks() {
        DUE.sentence(4, "FAULT; NONE.");
        asked("fault()", MorningBill::fault);
    }

    private static void p06_smellOnlyAsks() {
        DUE.sentence(6, "How strong it is at a CELL.");
        asked("smell(0)", bill -> bill.smell(0));
        asked("smell(9)", bill -> bill.smell(9));
    }

    private static void p07_windOnlyAsks() {
        DUE.sentence(7, "The WIND of an HOUR (1 E, -1 W, 0 none); NONE: there are not so many.");
        int[] hours = {0, 7, 8, -1, Integer.MIN_VALUE, Integer.MAX_VALUE};
        for (int hour : hours) {
            asked("wind(" + hour + ")", bill -> bill.wind(hour));
        }
    }

    private static void p08_noseOnlyAsks() {
        DUE.sentence(8, "1 if it has it now, 0 (4).");
        for (int what = 0; what <= 4; what++) {
            int each = what;
            asked("nose(0, " + each + ")", bill -> bill.nose(0, each));
            asked("nose(5, " + each + ")", bill -> bill.nose(5, each));
        }
    }

    private static void p09_penniesOnlyAsks() {
        DUE.sentence(9, "PENNIES so far.");
        asked("pennies()", MorningBill::pennies);
    }

    private static void p13_byChangesNothing() {
        DUE.sentence(13, NOTHING);
        asked("by(0)", bill -> bill.by(0));
        asked("by(255)", bill -> bill.by(255));
    }

    private static void p14_bestChangesNothing() {
        DUE.sentence(14, NOTHING);
        asked("best(false)", bill -> bill.best(false));
        asked("best(true)", bill -> bill.best(true));
    }

    private static void p15_bestChimneyChangesNothing() {
        DUE.sentence(15, NOTHING);
        asked("bestChimney()", MorningBill::bestChimney);
    }

    private static void p16_shareChangesNothing() {
        DUE.sentence(16, NOTHING);
        asked("share(0, true)", bill -> bill.share(0, true));
        asked("share(5, false)", bill -> bill.share(5, false));
    }

    private static void p17_judgeChangesNothing() {
        DUE.sentence(17, NOTHING);
        asked("judge(1, 1)", bill -> bill.judge(1, 1));
        asked("judge(1, 9)", bill -> bill.judge(1, 9));
        asked("judge(8, 0)", bill -> bill.judge(8, 0));
        asked("judge(8, 99999999)", bill -> bill.judge(8, 99999999));
    }

    private static void p18_hadChangesNothing() {
        DUE.sentence(18, NOTHING);
        asked("had(0)", bill -> bill.had(0));
        asked("had(255)", bill -> bill.had(255));
    }

    private static void p19_onlyChangesNothing() {
        DUE.sentence(19, NOTHING);
        asked("only(0)", bill -> bill.only(0));
        asked("only(63)", bill -> bill.only(63));
        asked("only(1)", bill -> bill.only(1));
    }

    private static void p22_whenChangesNothing() {
        DUE.sentence(22, NOTHING);
        for (int what = 0; what <= 2; what++) {
            int each = what;
            asked("when(" + each + ")", bill -> bill.when(each));
        }
    }

    private static void p23_meanChangesNothing() {
        DUE.sentence(23, NOTHING);
        asked("mean(0, 0, true)", bill -> bill.mean(0, 0, true));
        asked("mean(255, 10, false)", bill -> bill.mean(255, 10, false));
    }

    private static void p24_fairChangesNothing() {
        DUE.sentence(24, NOTHING);
        asked("fair(0, 0, 0, true)", bill -> bill.fair(0, 0, 0, true));
        asked("fair(5, 255, 10, false)", bill -> bill.fair(5, 255, 10, false));
    }

    private static void p25_bakersChangesNothing() {
        DUE.sentence(25, NOTHING);
        asked("bakers(0, 0)", bill -> bill.bakers(0, 0));
        asked("bakers(9, 1)", bill -> bill.bakers(9, 1));
    }

    private static void p27_nothingChangesButTheSeed() {
        DUE.sentence(27, "(Nothing changes but THE SEED.)");
        for (Scene scene : Scene.all()) {
            for (int m = 1; m <= 20; m += 19) {
                MorningBill asked = scene.make();
                long seed = asked.seed(3);
                asked.mornings(m);
                asked.seed(seed);
                String difference = Future.difference(scene.make(), asked);
                DUE.holds(scene + ": after mornings(" + m + ") came " + difference, difference.isEmpty());
            }
        }
    }

    private static void p30_countOnlyAsks() {
        DUE.sentence(30, "0 letters of THE TEXT, 1 WINDS, 2 NOSES, 3 BAKER, 4 STRENGTH, 5 COST, 6 THE HOUR,");
        for (int what = 0; what <= 10; what++) {
            int each = what;
            asked("count(" + each + ")", bill -> bill.count(each));
        }
    }

    /** Each call of plans twice, with all others between: no answer hangs on what was asked before. */
    private static void p13_eachAnswersTheSameAgain() {
        DUE.sentence(13, NOTHING);
        for (Scene scene : Scene.all()) {
            MorningBill bill = scene.make();
            String first = allPlans(bill);
            DUE.holds(scene + ": all is answered as before", first.equals(allPlans(bill)));
            DUE.holds(scene + ": and as it is alone", first.equals(allPlans(scene.make())));
        }
    }

    private static String allPlans(MorningBill bill) {
        StringBuilder all = new StringBuilder();
        for (int plan = 0; plan < 256; plan += 51) {
            all.append(bill.by(plan)).append(' ').append(bill.had(plan)).append(' ');
            all.append(bill.mean(plan, 3, true)).append(' ').append(bill.fair(2, plan, 7, true)).append(' ');
            all.append(bill.judge(5, plan * 71)).append(' ').append(bill.when(plan % 3)).append(' ');
        }
        for (int nose = 0; nose < 6; nose++) {
            all.append(bill.share(nose, true)).append('/').append(bill.share(nose, false)).append(' ');
            all.append(bill.only(nose)).append(' ').append(bill.bakers(nose, nose % 2)).append(' ');
        }
        all.append(bill.best(false)).append(' ').append(bill.best(true)).append(' ').append(bill.bestChimney());
        return all.toString();
    }
}
