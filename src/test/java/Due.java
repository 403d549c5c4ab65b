/** Counts and prints the calls whose answer is not the one that is due. */
final class Due {
    private final String name;
    private String told = "";
    private int calls;
    private int callsBeforeSentence;
    private int sentences;
    private int wrong;

    Due(String name) {
        this.name = name;
    }

    /** What follows is the test of one sentence of the document: the promise's number and the sentence's words. */
    void sentence(int promise, String words) {
        closeSentence();
        sentences++;
        callsBeforeSentence = calls;
        told = " promise " + promise + " \"" + words + "\":";
    }

    private void closeSentence() {
        if (sentences > 0 && calls == callsBeforeSentence) {
            wrong++;
            System.out.println(name + ":" + told + " nothing was asked");
        }
    }

    void is(String call, long got, long want) {
        calls++;
        if (got != want) {
            wrong++;
            System.out.println(name + ":" + told + " " + call + " answered " + got + ", due is " + want);
        }
    }

    void holds(String what, boolean so) {
        is(what, so ? 1 : 0, 1);
    }

    int wrongSoFar() {
        return wrong;
    }

    void end() {
        closeSentence();
        System.out.println(name + ": " + (sentences > 0 ? sentences + " sentences, " : "") + calls + " answers, "
                + wrong + " not as due");
        if (wrong != 0 || calls == 0) {
            System.exit(1);
        }
    }

    /** An object whose street is the told one. */
    static MorningBill street(String text) {
        MorningBill bill = new MorningBill();
        write(bill, text);
        bill.street();
        return bill;
    }

    /** An object whose street is the told one, after hours told by figures (1 baked, 0 idle). */
    static MorningBill street(String text, String hours) {
        MorningBill bill = street(text);
        for (int hour = 0; hour < hours.length(); hour++) {
            bill.hour(hours.charAt(hour) == '1');
        }
        return bill;
    }

    static void write(MorningBill bill, String text) {
        bill.wipe();
        for (int place = 0; place < text.length(); place++) {
            bill.write(text.charAt(place));
        }
    }

    /** All that can be asked without changing anything, as one text: what a refused call must leave. */
    static String state(MorningBill bill) {
        StringBuilder all = new StringBuilder();
        for (int what = 0; what <= 10; what++) {
            all.append(bill.count(what)).append(' ');
        }
        for (int cell = 0; cell < 10; cell++) {
            all.append(bill.smell(cell)).append(' ');
        }
        for (int hour = 0; hour < 8; hour++) {
            all.append(bill.wind(hour)).append(' ');
        }
        for (int nose = 0; nose < 6; nose++) {
            for (int what = 0; what < 5; what++) {
                all.append(bill.nose(nose, what)).append(' ');
            }
        }
        long seed = bill.seed(0);
        bill.seed(seed);
        all.append(seed).append(' ').append(bill.fault()).append(' ');
        all.append(bill.pennies()).append(' ').append(bill.when(0)).append(' ').append(bill.when(1));
        return all.toString();
    }
}
