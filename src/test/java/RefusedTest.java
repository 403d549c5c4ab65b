/**
 * Of every call that can be refused: what is refused changes nothing, in any state, and the calls after it answer
 * as if it had not been; of several refusals the first that the call names. A test's name begins with the
 * promise's number.
 */
public final class RefusedTest {
    private static final Due DUE = new Due("RefusedTest");
    private static final int UNKNOWN = -1;
    private static final int OUTSIDE = -2;
    private static final int STATE = -3;
    private static final int FULL = -4;
    private static final int LESS = 1000000;
    private static final long FAR_LESS = 1000000000000L;
    private static final int MIN = Integer.MIN_VALUE;
    private static final int MAX = Integer.MAX_VALUE;
    private static final String NOTHING = "What is refused changes nothing.";
    private static final String FIRST_NAMED = "REFUSALS, of several the first that a call names: UNKNOWN (there is"
            + " no such NOSE, SLOT), OUTSIDE (another number is not as told), STATE (as told), FULL.";

    public static void main(String[] args) {
        p02_writeRefusedChangesNothing();
        p05_streetRefusedChangesNothing();
        p06_smellRefusedChangesNothing();
        p08_noseRefusedChangesNothing();
        p10_hourRefusedChangesNothing();
        p11_chimneyRefusedChangesNothing();
        p12_undoRefusedChangesNothing();
        p13_byRefusedChangesNothing();
        p16_shareRefusedChangesNothing();
        p17_judgeRefusedChangesNothing();
        p18_hadRefusedChangesNothing();
        p19_onlyRefusedChangesNothing();
        p20_seeRefusedChangesNothing();
        p22_whenRefusedChangesNothing();
        p23_meanRefusedChangesNothing();
        p24_fairRefusedChangesNothing();
        p25_bakersRefusedChangesNothing();
        p27_morningsRefusedChangesNothing();
        p28_keepRefusedChangesNothing();
        p29_againRefusedChangesNothing();
        p30_countRefusedChangesNothing();
        p02_firstNamedOfWrite();
        p08_firstNamedOfNose();
        p11_firstNamedOfChimney();
        p20_firstNamedOfSee();
        p24_firstNamedOfFair();
        p29_firstNamedOfAgain();
        p10_manyRefusedOnesInARow();
        DUE.end();
    }

    /** The call is refused as told, and the object goes on like one on which it was never called. */
    private static void refused(Scene scene, String call, long due, Future.Ask ask) {
        MorningBill asked = scene.make();
        DUE.is(scene + ": " + call, ask.of(asked), due);
        String difference = Future.difference(scene.make(), asked);
        DUE.holds(scene + ": after " + call + " came " + difference, difference.isEmpty());
    }

    private static void refusedInAll(String call, long due, Future.Ask ask) {
        for (Scene scene : Scene.all()) {
            refused(scene, call, due, ask);
        }
    }

    private static void p02_writeRefusedChangesNothing() {
        DUE.sentence(2, NOTHING);
        int[] outside = {-1, 256, MIN, MAX};
        for (int letter : outside) {
            refusedInAll("write(" + letter + ")", OUTSIDE, bill -> bill.write(letter));
        }
        refused(Scene.FULL, "write('0')", FULL, bill -> bill.write('0'));
        refused(Scene.FULL, "write(0)", FULL, bill -> bill.write(0));
        refused(Scene.FULL, "write(255)", FULL, bill -> bill.write(255));
    }

    private static void p05_streetRefusedChangesNothing() {
        DUE.sentence(5, NOTHING);
        refused(Scene.NEW, "street()", STATE, MorningBill::street);
        refused(Scene.HALF_WRITTEN, "street()", STATE, MorningBill::street);
        refused(Scene.FULL, "street()", STATE, MorningBill::street);
        Scene[] withAct = {Scene.MORNING, Scene.EVENING};
        for (Scene scene : withAct) {
            MorningBill one = scene.make();
            MorningBill other = scene.make();
            one.write('X');
            other.write('X');
            DUE.is(scene + ": street() of a text with a fault", other.street(), STATE);
            String difference = Future.difference(one, other);
            DUE.holds(scene + ": after street() came " + difference, difference.isEmpty());
        }
    }

    private static void p06_smellRefusedChangesNothing() {
        DUE.sentence(6, NOTHING);
        int[] outside = {-1, 10, MIN, MAX};
        for (int cell : outside) {
            refusedInAll("smell(" + cell + ")", OUTSIDE, bill -> bill.smell(cell));
        }
    }

    private static void p08_noseRefusedChangesNothing() {
        DUE.sentence(8, NOTHING);
        for (Scene scene : Scene.all()) {
            int[] unknown = {-1, scene.noses(), 6, 7, MIN, MAX};
            for (int nose : unknown) {
                refused(scene, "nose(" + nose + ", 0)", UNKNOWN, bill -> bill.nose(nose, 0));
            }
            int[] outside = {-1, 5, MIN, MAX};
            for (int what : outside) {
                long due = scene.hasNoses() ? OUTSIDE : UNKNOWN;
                refused(scene, "nose(0, " + what + ")", due, bill -> bill.nose(0, what));
            }
        }
    }

    private static void p10_hourRefusedChangesNothing() {
        DUE.sentence(10, NOTHING);
        Scene[] ended = {Scene.NEW, Scene.HALF_WRITTEN, Scene.EVENING};
        for (Scene scene : ended) {
            refused(scene, "hour(true)", STATE, bill -> bill.hour(true));
            refused(scene, "hour(false)", STATE, bill -> bill.hour(false));
        }
    }

    private static void p11_chimneyRefusedChangesNothing() {
        DUE.sentence(11, NOTHING);
        int[] outside = {-1, 10, 31, 32, MIN, MAX};
        for (int cell : outside) {
            refusedInAll("chimney(" + cell + ")", OUTSIDE, bill -> bill.chimney(cell));
        }
        Scene[] ended = {Scene.NEW, Scene.HALF_WRITTEN, Scene.EVENING};
        for (Scene scene : ended) {
            refused(scene, "chimney(0)", STATE, bill -> bill.chimney(0));
            refused(scene, "chimney(6)", STATE, bill -> bill.chimney(6));
            refused(scene, "chimney(9)", STATE, bill -> bill.chimney(9));
        }
    }

    private static void p12_undoRefusedChangesNothing() {
        DUE.sentence(12, NOTHING);
        refused(Scene.NEW, "undo()", STATE, MorningBill::undo);
        refused(Scene.HALF_WRITTEN, "undo()", STATE, MorningBill::undo);
        MorningBill one = Scene.MORNING.make();
        MorningBill other = Scene.MORNING.make();
        one.again(0);
        other.again(0);
        DUE.is("undo() when one goes on", other.undo(), STATE);
        String difference = Future.difference(one, other);
        DUE.holds("after undo() came " + difference, difference.isEmpty());
    }

    private static void p13_byRefusedChangesNothing() {
        DUE.sentence(13, NOTHING);
        int[] outside = {-1, 256, MIN, MAX};
        for (int plan : outside) {
            refusedInAll("by(" + plan + ")", OUTSIDE - LESS, bill -> bill.by(plan));
        }
    }

    private static void p16_shareRefusedChangesNothing() {
        DUE.sentence(16, NOTHING);
        for (Scene scene : Scene.all()) {
            int[] unknown = {-1, scene.noses(), 6, 7, MIN, MAX};
            for (int nose : unknown) {
                refused(scene, "share(" + nose + ", true)", UNKNOWN - LESS, bill -> bill.share(nose, true));
                refused(scene, "share(" + nose + ", false)", UNKNOWN - LESS, bill -> bill.share(nose, false));
            }
        }
    }

    private static void p17_judgeRefusedChangesNothing() {
        DUE.sentence(17, NOTHING);
        int[][] outside = {{0, 0}, {9, 0}, {-1, 0}, {MIN, 0}, {MAX, 0}, {1, -1}, {8, -1}, {8, MIN}, {1, 10},
            {7, 10000000}, {8, 100000000}, {8, MAX}};
        for (int[] told : outside) {
            refusedInAll("judge(" + told[0] + ", " + told[1] + ")", OUTSIDE, bill -> bill.judge(told[0], told[1]));
        }
    }

    private static void p18_hadRefusedChangesNothing() {
        DUE.sentence(18, NOTHING);
        int[] outside = {-1, 256, MIN, MAX};
        for (int plan : outside) {
            refusedInAll("had(" + plan + ")", OUTSIDE, bill -> bill.had(plan));
        }
    }

    private static void p19_onlyRefusedChangesNothing() {
        DUE.sentence(19, NOTHING);
        for (Scene scene : Scene.all()) {
            int[] outside = {-1, 1 << scene.noses(), 64, 128, MIN, MAX};
            for (int noses : outside) {
                refused(scene, "only(" + noses + ")", OUTSIDE, bill -> bill.only(noses));
            }
        }
    }

    private static void p20_seeRefusedChangesNothing() {
        DUE.sentence(20, NOTHING);
        for (Scene scene : Scene.all()) {
            int[] unknown = {-1, scene.noses(), 6, 7, MIN, MAX};
            for (int nose : unknown) {
                refused(scene, "see(" + nose + ", 0, true)", UNKNOWN, bill -> bill.see(nose, 0, true));
            }
            int[] outside = {-1, 8, MIN, MAX};
            for (int hour : outside) {
                long due = scene.hasNoses() ? OUTSIDE : UNKNOWN;
                refused(scene, "see(0, " + hour + ", false)", due, bill -> bill.see(0, hour, false));
            }
        }
        refused(Scene.FULL, "see(0, 0, false)", FULL, bill -> bill.see(0, 0, false));
        refused(Scene.FULL, "see(5, 7, true)", FULL, bill -> bill.see(5, 7, true));
    }

    private static void p22_whenRefusedChangesNothing() {
        DUE.sentence(22, NOTHING);
        int[] outside = {-1, 3, MIN, MAX};
        for (int what : outside) {
            refusedInAll("when(" + what + ")", OUTSIDE, bill -> bill.when(what));
        }
    }

    private static void p23_meanRefusedChangesNothing() {
        DUE.sentence(23, NOTHING);
        int[][] outside = {{-1, 0}, {256, 0}, {MIN, 5}, {MAX, 5}, {0, -1}, {0, 11}, {255, MIN}, {255, MAX}};
        for (int[] told : outside) {
            String call = "mean(" + told[0] + ", " + told[1] + ", ";
            refusedInAll(call + "true)", OUTSIDE - FAR_LESS, bill -> bill.mean(told[0], told[1], true));
            refusedInAll(call + "false)", OUTSIDE - FAR_LESS, bill -> bill.mean(told[0], told[1], false));
        }
    }

    private static void p24_fairRefusedChangesNothing() {
        DUE.sentence(24, NOTHING);
        int[][] outside = {{-1, 0}, {256, 0}, {MIN, 5}, {MAX, 5}, {0, -1}, {0, 11}, {255, MIN}, {255, MAX}};
        for (Scene scene : Scene.all()) {
            for (int[] told : outside) {
                String call = "fair(0, " + told[0] + ", " + told[1] + ", ";
                long due = (scene.hasNoses() ? OUTSIDE : UNKNOWN) - FAR_LESS;
                refused(scene, call + "true)", due, bill -> bill.fair(0, told[0], told[1], true));
                refused(scene, call + "false)", due, bill -> bill.fair(0, told[0], told[1], false));
            }
            int[] unknown = {-1, scene.noses(), 6, 7, MIN, MAX};
            for (int nose : unknown) {
                refused(scene, "fair(" + nose + ", 1, 1, true)", UNKNOWN - FAR_LESS,
                    bill -> bill.fair(nose, 1, 1, true));
                refused(scene, "fair(" + nose + ", 1, 1, false)", UNKNOWN - FAR_LESS,
                    bill -> bill.fair(nose, 1, 1, false));
            }
        }
    }

    private static void p25_bakersRefusedChangesNothing() {
        DUE.sentence(25, NOTHING);
        int[][] outside = {{-1, 0}, {10, 0}, {MIN, 1}, {MAX, 1}, {0, -1}, {0, 2}, {9, MIN}, {9, MAX}};
        for (int[] told : outside) {
            refusedInAll("bakers(" + told[0] + ", " + told[1] + ")", OUTSIDE,
                bill -> bill.bakers(told[0], told[1]));
        }
    }

    private static void p27_morningsRefusedChangesNothing() {
        DUE.sentence(27, NOTHING);
        int[] outside = {0, 21, -1, MIN, MAX};
        for (int m : outside) {
            refusedInAll("mornings(" + m + ")", OUTSIDE - LESS, bill -> bill.mornings(m));
        }
    }

    private static void p28_keepRefusedChangesNothing() {
        DUE.sentence(28, NOTHING);
        int[] unknown = {-1, 2, MIN, MAX};
        for (int slot : unknown) {
            refusedInAll("keep(" + slot + ")", UNKNOWN, bill -> bill.keep(slot));
        }
    }

    private static void p29_againRefusedChangesNothing() {
        DUE.sentence(29, NOTHING);
        int[] unknown = {-1, 2, MIN, MAX};
        for (int slot : unknown) {
            refusedInAll("again(" + slot + ")", UNKNOWN, bill -> bill.again(slot));
        }
        refused(Scene.NEW, "again(0)", STATE, bill -> bill.again(0));
        refused(Scene.HALF_WRITTEN, "again(1)", STATE, bill -> bill.again(1));
        refused(Scene.MORNING, "again(1)", STATE, bill -> bill.again(1));
        refused(Scene.EVENING, "again(0)", STATE, bill -> bill.again(0));
    }

    private static void p30_countRefusedChangesNothing() {
        DUE.sentence(30, NOTHING);
        int[] outside = {-1, 11, MIN, MAX};
        for (int what : outside) {
            refusedInAll("count(" + what + ")", OUTSIDE, bill -> bill.count(what));
        }
    }

    private static void p02_firstNamedOfWrite() {
        DUE.sentence(2, FIRST_NAMED);
        DUE.is("write(-1) when full", Scene.FULL.make().write(-1), OUTSIDE);
        DUE.is("write(256) when full", Scene.FULL.make().write(256), OUTSIDE);
        DUE.is("write(255) when full", Scene.FULL.make().write(255), FULL);
    }

    private static void p08_firstNamedOfNose() {
        DUE.sentence(8, FIRST_NAMED);
        MorningBill bill = Scene.MORNING.make();
        DUE.is("nose(6, 5)", bill.nose(6, 5), UNKNOWN);
        DUE.is("nose(-1, -1)", bill.nose(-1, -1), UNKNOWN);
        DUE.is("nose(5, 5)", bill.nose(5, 5), OUTSIDE);
    }

    private static void p11_firstNamedOfChimney() {
        DUE.sentence(11, FIRST_NAMED);
        MorningBill bill = Scene.EVENING.make();
        DUE.is("chimney(10) with no hour left", bill.chimney(10), OUTSIDE);
        DUE.is("chimney(-1) with no hour left", bill.chimney(-1), OUTSIDE);
        DUE.is("chimney(9) with no hour left", bill.chimney(9), STATE);
    }

    private static void p20_firstNamedOfSee() {
        DUE.sentence(20, FIRST_NAMED);
        MorningBill bill = Scene.FULL.make();
        DUE.is("see(6, 8, true) when full", bill.see(6, 8, true), UNKNOWN);
        DUE.is("see(6, 7, true) when full", bill.see(6, 7, true), UNKNOWN);
        DUE.is("see(5, 8, true) when full", bill.see(5, 8, true), OUTSIDE);
        DUE.is("see(5, -1, true) when full", bill.see(5, -1, true), OUTSIDE);
        DUE.is("see(5, 7, true) when full", bill.see(5, 7, true), FULL);
        DUE.is("see(6, 8, true) when there is room", Scene.MORNING.make().see(6, 8, true), UNKNOWN);
    }

    private static void p24_firstNamedOfFair() {
        DUE.sentence(24, FIRST_NAMED);
        MorningBill bill = Scene.MORNING.make();
        DUE.is("fair(6, 256, 11, true)", bill.fair(6, 256, 11, true), UNKNOWN - FAR_LESS);
        DUE.is("fair(6, 0, 11, false)", bill.fair(6, 0, 11, false), UNKNOWN - FAR_LESS);
        DUE.is("fair(-1, -1, 0, true)", bill.fair(-1, -1, 0, true), UNKNOWN - FAR_LESS);
        DUE.is("fair(5, 256, 11, false)", bill.fair(5, 256, 11, false), OUTSIDE - FAR_LESS);
    }

    private static void p29_firstNamedOfAgain() {
        DUE.sentence(29, FIRST_NAMED);
        MorningBill bill = new MorningBill();
        DUE.is("again(2), nothing kept", bill.again(2), UNKNOWN);
        DUE.is("again(-1), nothing kept", bill.again(-1), UNKNOWN);
        DUE.is("again(1), nothing kept", bill.again(1), STATE);
    }

    /** Refused calls of all kinds one behind the other: none counts. */
    private static void p10_manyRefusedOnesInARow() {
        DUE.sentence(10, NOTHING);
        MorningBill bill = Scene.EVENING.make();
        for (int time = 0; time < 10; time++) {
            DUE.is("hour(true)", bill.hour(true), STATE);
            DUE.is("chimney(3)", bill.chimney(3), STATE);
            DUE.is("again(0)", bill.again(0), STATE);
            DUE.is("keep(2)", bill.keep(2), UNKNOWN);
            DUE.is("mornings(0)", bill.mornings(0), OUTSIDE - LESS);
        }
        String difference = Future.difference(Scene.EVENING.make(), bill);
        DUE.holds("after fifty refused calls came " + difference, difference.isEmpty());
    }
}
