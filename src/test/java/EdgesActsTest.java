/**
 * Promises 10 to 12 at their edges: one test for each sentence that names a boundary. A test's name begins with
 * the promise's number, the sentence is told in its first line.
 */
public final class EdgesActsTest {
    private static final Due DUE = new Due("EdgesActsTest");
    private static final int OUTSIDE = -2;
    private static final int STATE = -3;
    private static final int MIN = Integer.MIN_VALUE;
    private static final int MAX = Integer.MAX_VALUE;
    private static final String WINDS = "EW-";

    public static void main(String[] args) {
        p10_asManyAsWinds();
        p10_goesACellOn();
        p10_beyond0And9IsGone();
        p10_oneLessStrong0AtLeast();
        p10_strengthMore();
        p10_atAChimneyThereIsNone();
        p10_tOrStronger();
        p10_byTheHour();
        p10_inAdvance();
        p10_byEastWind();
        p10_sentBack();
        p10_pennies0To9();
        p10_bakedCostsCost();
        p10_comesInLessWhatGoesOut();
        p10_theHourIsOneMore();
        p10_whoHasItThen();
        p10_stateNoHourIsLeft();
        p11_builtOrTornDown();
        p11_outside();
        p11_stateNoHourIsLeft();
        p12_kindsOfActs();
        p12_row14AtMost();
        p12_firstOneIsForgotten();
        p12_lastOneCanBeUndone();
        p12_howManyAreLeft();
        p12_stateThereIsNone();
        DUE.end();
    }

    private static int windOf(char letter) {
        return letter == 'E' ? 1 : letter == 'W' ? -1 : 0;
    }

    /** All ten cells: only one of them may have a smell. */
    private static void onlySmell(String when, MorningBill bill, int at, int strength) {
        for (int cell = 0; cell < 10; cell++) {
            DUE.is(when + ": smell(" + cell + ")", bill.smell(cell), cell == at ? strength : 0);
        }
    }

    // ---- hour

    private static void p10_asManyAsWinds() {
        DUE.sentence(10, "AN HOUR (there are as many as WINDS):");
        for (int winds = 0; winds <= 8; winds++) {
            MorningBill bill = Due.street("S010" + "EW-EW-EW".substring(0, winds));
            for (int hour = 0; hour < winds; hour++) {
                DUE.is("hour(false) " + hour + " of " + winds, bill.hour(false), 0);
            }
            DUE.is("hour(false) behind " + winds, bill.hour(false), STATE);
            DUE.is("hour(true) behind " + winds, bill.hour(true), STATE);
            DUE.is("count(6)", bill.count(6), winds);
        }
    }

    private static void p10_goesACellOn() {
        DUE.sentence(10, "the smell of each CELL goes a CELL on by the WIND of THE HOUR");
        for (int baker = 0; baker < 10; baker++) {
            for (char wind : WINDS.toCharArray()) {
                MorningBill bill = Due.street("S" + baker + "90-" + wind, "10");
                int to = baker + windOf(wind);
                onlySmell(wind + " from " + baker, bill, to, 8);
            }
        }
        MorningBill two = Due.street("S890-E", "11");
        DUE.is("smell(8) of two", two.smell(8), 9);
        DUE.is("smell(9) of two", two.smell(9), 8);
        MorningBill three = Due.street("S890-EW", "111");
        DUE.is("smell(7) of three", three.smell(7), 8);
        DUE.is("smell(8) of three", three.smell(8), 9 + 7);
        DUE.is("smell(9) of three", three.smell(9), 0);
    }

    private static void p10_beyond0And9IsGone() {
        DUE.sentence(10, "(what goes beyond 0, 9 is gone)");
        onlySmell("E at 9", Due.street("S990-E", "10"), -1, 0);
        onlySmell("E at 9, back W", Due.street("S990-EW", "100"), -1, 0);
        onlySmell("W at 0", Due.street("S090-W", "10"), -1, 0);
        onlySmell("W at 0, back E", Due.street("S090-WE", "100"), -1, 0);
        onlySmell("E at 8", Due.street("S890-E", "10"), 9, 8);
        onlySmell("W at 1", Due.street("S190-W", "10"), 0, 8);
        onlySmell("E at 9 and baked: only the new", Due.street("S990-E", "11"), 9, 9);
        onlySmell("W at 0 and baked: only the new", Due.street("S090-W", "11"), 0, 9);
    }

    private static void p10_oneLessStrong0AtLeast() {
        DUE.sentence(10, "and is 1 less strong (0 at least);");
        for (int strength = 1; strength <= 9; strength++) {
            MorningBill bill = Due.street("S5" + strength + "0--------", "1");
            for (int gone = 1; gone < 8; gone++) {
                bill.hour(false);
                DUE.is(strength + " after " + gone, bill.smell(5), Math.max(0, strength - gone));
            }
        }
        onlySmell("1, gone on", Due.street("S510-E", "10"), -1, 0);
        onlySmell("where there is none it is not below none", Due.street("S510EEE", "000"), -1, 0);
        DUE.is("none, then baked", Due.street("S510---", "001").smell(5), 1);
    }

    private static void p10_strengthMore() {
        DUE.sentence(10, "if it is BAKED, BAKER's CELL has STRENGTH more;");
        for (int baker = 0; baker < 10; baker += 9) {
            for (int strength = 1; strength <= 9; strength += 8) {
                for (char wind : WINDS.toCharArray()) {
                    String text = "S" + baker + strength + "0" + wind;
                    onlySmell(text + ", baked", Due.street(text, "1"), baker, strength);
                    onlySmell(text + ", idle", Due.street(text, "0"), -1, 0);
                }
            }
        }
        DUE.is("twice", Due.street("S590--", "11").smell(5), 8 + 9);
        DUE.is("eight times", Due.street("S590--------", "11111111").smell(5), 65);
        DUE.is("eight times, the weakest", Due.street("S510--------", "11111111").smell(5), 1);
        DUE.is("what comes back is added", Due.street("S590-EW", "101").smell(5), 7 + 9);
    }

    private static void p10_atAChimneyThereIsNone() {
        DUE.sentence(10, "at a CHIMNEY there is none then.");
        for (int cell = 0; cell < 10; cell++) {
            MorningBill bill = Due.street("S" + cell + "95---N" + cell + "190");
            bill.chimney(cell);
            DUE.is("hour(true), a chimney at " + cell, bill.hour(true), 0);
            onlySmell("a chimney at " + cell, bill, -1, 0);
            DUE.is("pennies(): it costs", bill.pennies(), -5);
            bill.chimney(cell);
            DUE.is("hour(true), torn down", bill.hour(true), 1);
            onlySmell("torn down at " + cell, bill, cell, 9);
            bill.chimney(cell);
            onlySmell("built again, no hour yet", bill, cell, 9);
            DUE.is("hour(false)", bill.hour(false), 0);
            onlySmell("built again, an hour on", bill, -1, 0);
        }
        MorningBill beside = Due.street("S590-EE", "1");
        beside.chimney(4);
        beside.chimney(6);
        beside.hour(true);
        onlySmell("what comes to a chimney is gone", beside, 5, 9);
        MorningBill all = Due.street("S590--", "1");
        for (int cell = 0; cell < 10; cell++) {
            all.chimney(cell);
        }
        all.hour(true);
        onlySmell("chimneys everywhere", all, -1, 0);
    }

    private static void p10_tOrStronger() {
        DUE.sentence(10, "that has it, if it is t (1 to 9) or stronger,");
        for (int wants = 1; wants <= 9; wants++) {
            for (int strength = 1; strength <= 9; strength++) {
                MorningBill bill = Due.street("S0" + strength + "0-N0" + wants + "10");
                DUE.is(strength + " for " + wants, bill.hour(true), strength >= wants ? 1 : 0);
                DUE.is("pennies()", bill.pennies(), strength >= wants ? 1 : 0);
            }
        }
        DUE.is("65 for 9", Due.street("S090--------N0910", "1111111").hour(true), 1);
    }

    /** What comes in one hour of a nose by its contract, in all winds, if it has it and if it has it not. */
    private static void comes(int contract, char wind, int ifItHas, int ifNot) {
        String text = "S010" + wind + "N017" + contract;
        DUE.is(text + ", it has it", Due.street(text, "1").pennies(), ifItHas);
        DUE.is(text + ", it has it not", Due.street(text, "0").pennies(), ifNot);
    }

    private static void p10_byTheHour() {
        DUE.sentence(10, "BY THE HOUR a NOSE that has it pays its PENNIES;");
        for (char wind : WINDS.toCharArray()) {
            comes(0, wind, 7, 0);
        }
    }

    private static void p10_inAdvance() {
        DUE.sentence(10, "IN ADVANCE one that has it not gets them back;");
        for (char wind : WINDS.toCharArray()) {
            comes(1, wind, 0, -7);
        }
    }

    private static void p10_byEastWind() {
        DUE.sentence(10, "BY EAST WIND one that has it pays, if the WIND is E;");
        comes(2, 'E', 7, 0);
        comes(2, 'W', 0, 0);
        comes(2, '-', 0, 0);
        DUE.is("the wind of THE HOUR, not the one before", Due.street("S090E-N0172", "01").pennies(), 0);
        DUE.is("the wind of THE HOUR, not the one behind", Due.street("S090-EN0172", "10").pennies(), 0);
    }

    private static void p10_sentBack() {
        DUE.sentence(10, "SENT BACK one that has it gets them.");
        for (char wind : WINDS.toCharArray()) {
            comes(3, wind, -7, 0);
        }
    }

    private static void p10_pennies0To9() {
        DUE.sentence(10, "for p PENNIES (0 to 9) an HOUR,");
        for (int price = 0; price <= 9; price++) {
            DUE.is("by the hour", Due.street("S010EN01" + price + "0", "1").pennies(), price);
            DUE.is("in advance", Due.street("S010EN01" + price + "1", "0").pennies(), -price);
            DUE.is("by east wind", Due.street("S010EN01" + price + "2", "1").pennies(), price);
            DUE.is("sent back", Due.street("S010EN01" + price + "3", "1").pennies(), -price);
            DUE.is("two hours", Due.street("S010--N01" + price + "0", "11").pennies(), 2 * price);
        }
    }

    private static void p10_bakedCostsCost() {
        DUE.sentence(10, "BAKED costs COST.");
        for (int cost = 0; cost <= 9; cost++) {
            DUE.is("baked once", Due.street("S01" + cost + "--", "10").pennies(), -cost);
            DUE.is("baked twice", Due.street("S01" + cost + "--", "11").pennies(), -2 * cost);
            DUE.is("idle", Due.street("S01" + cost + "--", "00").pennies(), 0);
        }
    }

    private static void p10_comesInLessWhatGoesOut() {
        DUE.sentence(10, "PENNIES are what comes in less what goes out.");
        String noses = "N0190N0182N0171N0163N1150N1141";
        DUE.is("baked under E", Due.street("S015E" + noses, "1").pennies(), 9 + 8 - 6 - 4 - 5);
        DUE.is("baked under W", Due.street("S015W" + noses, "1").pennies(), 9 - 6 - 4 - 5);
        DUE.is("idle under E", Due.street("S015E" + noses, "0").pennies(), -7 - 4);
        DUE.is("no noses, no cost", Due.street("S010E", "1").pennies(), 0);
    }

    private static void p10_theHourIsOneMore() {
        DUE.sentence(10, "THE HOUR is one more.");
        MorningBill bill = Due.street("S010EW-EW-EW");
        for (int hour = 0; hour < 8; hour++) {
            DUE.is("count(6)", bill.count(6), hour);
            bill.hour(hour % 2 == 0);
        }
        DUE.is("count(6) at the end", bill.count(6), 8);
        bill.hour(true);
        DUE.is("count(6) behind the end", bill.count(6), 8);
    }

    private static void p10_whoHasItThen() {
        DUE.sentence(10, "AN HOUR: who has it then, as bits.");
        String six = "N0110N0210N0310N0410N0510N0610";
        DUE.is("none of none", Due.street("S090-").hour(true), 0);
        DUE.is("none of six", Due.street("S090-" + six).hour(false), 0);
        for (int strength = 1; strength <= 9; strength++) {
            int due = (1 << Math.min(strength, 6)) - 1;
            DUE.is("strength " + strength, Due.street("S0" + strength + "0-" + six).hour(true), due);
        }
        DUE.is("the last one alone", Due.street("S010-N1110N1110N1110N1110N1110N0110").hour(true), 32);
        DUE.is("one that pays nothing has it too", Due.street("S010-N0102").hour(true), 1);
        MorningBill thins = Due.street("S060------" + six);
        thins.hour(true);
        for (int who = 31; who > 0; who >>= 1) {
            DUE.is("thinned", thins.hour(false), who);
        }
    }

    private static void p10_stateNoHourIsLeft() {
        DUE.sentence(10, "STATE: no HOUR is left.");
        DUE.is("of none", new MorningBill().hour(true), STATE);
        MorningBill bill = Due.street("S097EN0193");
        DUE.is("the last one", bill.hour(true), 1);
        for (int time = 0; time < 3; time++) {
            DUE.is("behind it", bill.hour(true), STATE);
            DUE.is("behind it, idle", bill.hour(false), STATE);
        }
        DUE.is("smell(0)", bill.smell(0), 9);
        DUE.is("pennies()", bill.pennies(), -16);
        DUE.is("undo()", bill.undo(), 0);
        DUE.is("there is one again", bill.hour(false), 0);
        DUE.is("and none", bill.hour(false), STATE);
    }

    // ---- chimney

    private static void p11_builtOrTornDown() {
        DUE.sentence(11, "A CHIMNEY is built at a CELL, or torn down: 1 if there is one then, 0.");
        MorningBill bill = Due.street("S010E");
        int due = 0;
        for (int cell = 0; cell < 10; cell++) {
            DUE.is("chimney(" + cell + ") built", bill.chimney(cell), 1);
            due |= 1 << cell;
            DUE.is("count(7)", bill.count(7), due);
        }
        DUE.is("count(7) of all", bill.count(7), 1023);
        for (int cell = 9; cell >= 0; cell--) {
            DUE.is("chimney(" + cell + ") torn down", bill.chimney(cell), 0);
            due &= ~(1 << cell);
            DUE.is("count(7)", bill.count(7), due);
        }
        DUE.is("chimney(0) built again", bill.chimney(0), 1);
        DUE.is("count(6): no hour goes by", bill.count(6), 0);
        DUE.is("pennies(): it costs nothing", bill.pennies(), 0);
    }

    private static void p11_outside() {
        DUE.sentence(11, "OUTSIDE; STATE: no HOUR is left.");
        MorningBill bill = Due.street("S010E");
        int[] outside = {-1, 10, 11, 31, 32, 42, -32, MIN, MAX};
        for (int cell : outside) {
            DUE.is("chimney(" + cell + ")", bill.chimney(cell), OUTSIDE);
            DUE.is("count(7)", bill.count(7), 0);
            DUE.is("count(9)", bill.count(9), 0);
        }
        DUE.is("chimney(9)", bill.chimney(9), 1);
        DUE.is("chimney(0)", bill.chimney(0), 1);
        DUE.is("count(7)", bill.count(7), 513);
    }

    private static void p11_stateNoHourIsLeft() {
        DUE.sentence(11, "STATE: no HOUR is left.");
        DUE.is("chimney(0) of a new object", new MorningBill().chimney(0), STATE);
        MorningBill bill = Due.street("S010EE", "1");
        DUE.is("chimney(4), one hour is left", bill.chimney(4), 1);
        bill.hour(false);
        for (int cell = 0; cell < 10; cell++) {
            DUE.is("chimney(" + cell + "), none is left", bill.chimney(cell), STATE);
        }
        DUE.is("count(7)", bill.count(7), 16);
        bill.undo();
        DUE.is("chimney(4), one is left again", bill.chimney(4), 0);
    }

    // ---- undo

    private static void p12_kindsOfActs() {
        DUE.sentence(12, "ACTS (HOURS BAKED, HOURS IDLE, a CHIMNEY built or torn down) are a row");
        MorningBill bill = Due.street("S394--N3190");
        bill.hour(true);
        bill.chimney(3);
        bill.chimney(3);
        bill.hour(false);
        DUE.is("count(9)", bill.count(9), 4);
        DUE.is("undo() of an hour idle", bill.undo(), 3);
        DUE.is("smell(3)", bill.smell(3), 9);
        DUE.is("pennies()", bill.pennies(), 5);
        DUE.is("count(6)", bill.count(6), 1);
        DUE.is("undo() of a chimney torn down", bill.undo(), 2);
        DUE.is("count(7)", bill.count(7), 8);
        DUE.is("undo() of a chimney built", bill.undo(), 1);
        DUE.is("count(7)", bill.count(7), 0);
        DUE.is("undo() of an hour baked", bill.undo(), 0);
        DUE.is("smell(3)", bill.smell(3), 0);
        DUE.is("pennies()", bill.pennies(), 0);
        DUE.is("count(6)", bill.count(6), 0);
        bill.keep(0);
        bill.see(0, 0, true);
        bill.seed(4);
        bill.write('X');
        DUE.is("count(9): nothing else is an act", bill.count(9), 0);
    }

    private static void p12_row14AtMost() {
        DUE.sentence(12, "(14 at most; of more the first one is forgotten);");
        MorningBill bill = Due.street("S010EEEEEEEE");
        for (int act = 1; act <= 8; act++) {
            bill.hour(act % 2 == 0);
            DUE.is("count(9) after " + act, bill.count(9), act);
            bill.undo();
            bill.chimney(act);
            DUE.is("count(9) after " + act, bill.count(9), act);
        }
        for (int act = 9; act <= 14; act++) {
            bill.hour(true);
            DUE.is("count(9) after " + act, bill.count(9), act);
        }
        bill.hour(true);
        DUE.is("count(9) after 15", bill.count(9), 14);
        bill.hour(true);
        DUE.is("count(9) after 16", bill.count(9), 14);
    }

    /** After so many acts (the ring has gone round, even twice) just the last 14 can be undone. */
    private static void p12_firstOneIsForgotten() {
        DUE.sentence(12, "of more the first one is forgotten);");
        int[] acts = {1, 13, 14, 15, 16, 27, 28, 29, 30, 42, 43, 100};
        for (int count : acts) {
            MorningBill bill = Due.street("S010E");
            int[] chimneys = new int[count + 1];
            for (int act = 0; act < count; act++) {
                bill.chimney(act * 7 % 10);
                chimneys[act + 1] = bill.count(7);
            }
            int kept = Math.min(count, 14);
            for (int undone = 1; undone <= kept; undone++) {
                DUE.is("undo() " + undone + " of " + count, bill.undo(), kept - undone);
                DUE.is("count(7)", bill.count(7), chimneys[count - undone]);
            }
            DUE.is("undo() behind all of " + count, bill.undo(), STATE);
            DUE.is("count(7) stays", bill.count(7), chimneys[count - kept]);
        }
    }

    private static void p12_lastOneCanBeUndone() {
        DUE.sentence(12, "the last one can be undone.");
        MorningBill bill = Due.street("S391EW--N3190N4251", "1011");
        DUE.is("hour(): none is left", bill.hour(true), STATE);
        DUE.is("undo() with no hour left", bill.undo(), 3);
        DUE.is("count(6)", bill.count(6), 3);
        String difference = Future.difference(Due.street("S391EW--N3190N4251", "101"), bill);
        DUE.holds("it is another than before: " + difference, difference.isEmpty());
        MorningBill other = Due.street("S391EW--N3190N4251", "10");
        other.chimney(4);
        other.undo();
        other.hour(true);
        difference = Future.difference(Due.street("S391EW--N3190N4251", "101"), other);
        DUE.holds("another act after an undone one: " + difference, difference.isEmpty());
        MorningBill full = Due.street("S010E");
        for (int act = 0; act < 20; act++) {
            full.chimney(act % 10);
        }
        for (int time = 0; time < 40; time++) {
            DUE.is("undo() of a full row", full.undo(), 13);
            DUE.is("chimney(9) again", full.chimney(9), 0);
            DUE.is("count(9)", full.count(9), 14);
        }
    }

    private static void p12_howManyAreLeft() {
        DUE.sentence(12, "The last ACT is undone: how many are left.");
        MorningBill bill = Due.street("S010E");
        for (int act = 0; act < 14; act++) {
            bill.chimney(0);
        }
        for (int left = 13; left >= 0; left--) {
            DUE.is("undo()", bill.undo(), left);
            DUE.is("count(9)", bill.count(9), left);
        }
    }

    private static void p12_stateThereIsNone() {
        DUE.sentence(12, "STATE: there is none.");
        DUE.is("undo() of a new object", new MorningBill().undo(), STATE);
        MorningBill bill = Due.street("S010E");
        DUE.is("undo() of a new street", bill.undo(), STATE);
        bill.hour(true);
        DUE.is("undo() of one", bill.undo(), 0);
        DUE.is("undo() of none", bill.undo(), STATE);
        DUE.is("undo() of none again", bill.undo(), STATE);
        DUE.is("hour() after that", bill.hour(true), 0);
        DUE.is("smell(0)", bill.smell(0), 1);
        DUE.is("count(9)", bill.count(9), 1);
        bill.keep(0);
        bill.again(0);
        DUE.is("undo() when one goes on", bill.undo(), STATE);
    }
}
