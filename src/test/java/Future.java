import java.util.ArrayList;
import java.util.List;

/**
 * All that an object answers from now on in one long run of calls, which asks for everything the object holds:
 * two objects that answer alike here can not be told apart.
 */
final class Future {
    /** Some of the 512 calls of an object are left for what is done before. */
    static final int MOST_CALLS = 400;

    /** A call, or several. */
    interface Ask {
        long of(MorningBill bill);
    }

    private final MorningBill bill;
    private final List<String> answers = new ArrayList<>();

    private Future(MorningBill bill) {
        this.bill = bill;
    }

    /** The answers, each with its call. */
    static List<String> of(MorningBill bill) {
        Future future = new Future(bill);
        future.readStreet();
        future.readMorning();
        future.askPlans();
        future.askChances();
        future.undoAll();
        future.goOnFromSlots();
        future.act();
        future.makeAnew();
        if (future.answers.size() > MOST_CALLS) {
            throw new IllegalStateException("a future of " + future.answers.size() + " calls is too long");
        }
        return future.answers;
    }

    /** The first answer in which the second object is another than the first; empty, if there is none. */
    static String difference(MorningBill one, MorningBill other) {
        List<String> first = of(one);
        List<String> second = of(other);
        for (int place = 0; place < first.size(); place++) {
            if (!first.get(place).equals(second.get(place))) {
                return second.get(place) + " instead of " + first.get(place);
            }
        }
        return "";
    }

    private void tell(String call, long answer) {
        answers.add(call + " = " + answer);
    }

    private void readStreet() {
        for (int hour = 0; hour < 8; hour++) {
            tell("wind(" + hour + ")", bill.wind(hour));
        }
        for (int nose = 0; nose < 6; nose++) {
            for (int what = 0; what < 5; what++) {
                tell("nose(" + nose + ", " + what + ")", bill.nose(nose, what));
            }
        }
    }

    private void readMorning() {
        for (int what = 0; what <= 10; what++) {
            tell("count(" + what + ")", bill.count(what));
        }
        for (int cell = 0; cell < 10; cell++) {
            tell("smell(" + cell + ")", bill.smell(cell));
        }
        tell("pennies()", bill.pennies());
        tell("fault()", bill.fault());
    }

    private void askPlans() {
        int[] plans = {0, 255, 170};
        for (int plan : plans) {
            tell("by(" + plan + ")", bill.by(plan));
            tell("had(" + plan + ")", bill.had(plan));
        }
        tell("best(false)", bill.best(false));
        tell("best(true)", bill.best(true));
        tell("bestChimney()", bill.bestChimney());
        tell("share(0, true)", bill.share(0, true));
        tell("share(1, false)", bill.share(1, false));
        tell("judge(1, 0)", bill.judge(1, 0));
        tell("judge(3, 101)", bill.judge(3, 101));
        tell("only(0)", bill.only(0));
        tell("only(3)", bill.only(3));
    }

    private void askChances() {
        for (int what = 0; what <= 2; what++) {
            tell("when(" + what + ")", bill.when(what));
        }
        tell("mean(255, 3, true)", bill.mean(255, 3, true));
        tell("mean(90, 3, false)", bill.mean(90, 3, false));
        tell("fair(0, 255, 4, true)", bill.fair(0, 255, 4, true));
        tell("bakers(3, 0)", bill.bakers(3, 0));
        tell("bakers(8, 1)", bill.bakers(8, 1));
        tell("mornings(2)", bill.mornings(2));
        tell("seed(5)", bill.seed(5));
        tell("see(0, 7, true)", bill.see(0, 7, true));
        tell("unsee()", bill.unsee());
    }

    /** One time more than there can be acts. */
    private void undoAll() {
        for (int time = 0; time < 15; time++) {
            tell("undo()", bill.undo());
            tell("count(6)", bill.count(6));
            tell("count(7)", bill.count(7));
            tell("pennies()", bill.pennies());
            tell("smell(3)", bill.smell(3));
            tell("smell(4)", bill.smell(4));
        }
    }

    private void goOnFromSlots() {
        for (int slot = 0; slot < 2; slot++) {
            tell("again(" + slot + ")", bill.again(slot));
            readMorning();
        }
    }

    private void act() {
        tell("hour(true)", bill.hour(true));
        tell("chimney(5)", bill.chimney(5));
        tell("hour(false)", bill.hour(false));
        tell("keep(1)", bill.keep(1));
        tell("undo()", bill.undo());
        tell("again(1)", bill.again(1));
    }

    /** A letter more may make the text whole, or wrong. */
    private void makeAnew() {
        tell("street()", bill.street());
        tell("count(1)", bill.count(1));
        readStreet();
        tell("write('0')", bill.write('0'));
        tell("fault()", bill.fault());
        tell("street()", bill.street());
        readStreet();
        readMorning();
    }
}
