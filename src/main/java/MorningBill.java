/**
 * The bill for the wind: what a baker may charge a street for the smell of his oven.
 *
 * <p>The words in the comments (street, hour, nose, plan, ..) are those of the document. All rows are
 * made once, in the constructor; no later call makes an object.
 */
public final class MorningBill {
    public static final int UNKNOWN = -1, OUTSIDE = -2, STATE = -3, FULL = -4, NONE = -99;

    private static final int CELLS = 10;
    private static final int HOURS = 8;
    private static final int NOSES = 6;
    private static final int LETTERS = 48;
    private static final int ACTS = 14;
    private static final int SIGHTS = 6;
    private static final int SLOTS = 2;
    private static final int TIMES = 20;
    private static final int TENTHS = 10;

    private static final int HEAD_LETTERS = 4;
    private static final int NOSE_LETTERS = 5;

    private static final int EAST = 1;
    private static final int WEST = -1;

    private static final int BY_THE_HOUR = 0;
    private static final int IN_ADVANCE = 1;
    private static final int BY_EAST_WIND = 2;
    private static final int SENT_BACK = 3;

    private static final int NO_HOUR = 9;
    /** Stands for all noses together, where what one of them pays can be asked. */
    private static final int EVERY_NOSE = -1;

    /** How much less a refusal is, where the answer itself may be below 0. */
    private static final int LESS = 1000000;
    private static final long FAR_LESS = 1000000000000L;

    private static final long SEED_TIMES = 6364136223846793005L;
    private static final long SEED_MORE = 1442695040888963407L;
    /** Where the upper 31 of 64 bits begin. */
    private static final int SEED_UPPER = 33;

    /** Euclid needs fewer rounds than this for any two longs. */
    private static final int ROUNDS = 100;

    private static final int[] FACTORIALS = {1, 1, 2, 6, 24, 120, 720};
    private static final int[] TENS = {1, 10, 100, 1000, 10000, 100000, 1000000, 10000000, 100000000};

    private final Text text = new Text();
    private final Street street = new Street();
    private final Morning now = new Morning();
    private final Morning supposed = new Morning();
    private final Acts acts = new Acts();
    private final Slots slots = new Slots();
    private final Sights sights = new Sights();
    private final Walk walk = new Walk(street);
    private final Choice choice = new Choice(walk);
    private final Groups groups = new Groups(street, walk);
    private final Rivals rivals = new Rivals(street, walk);
    private long theSeed;

    public MorningBill() {
    }

    // ---- the street

    public int write(int letter) {
        if (letter < 0 || letter > 255) {
            return OUTSIDE;
        }
        return text.add(letter) ? text.length : FULL;
    }

    public int wipe() {
        int length = text.length;
        text.length = 0;
        return length;
    }

    public int fault() {
        return text.faultPlace();
    }

    public int street() {
        if (text.faultPlace() != NONE) {
            return STATE;
        }
        street.readFrom(text);
        now.begin();
        acts.forget();
        slots.forget();
        return 10 * street.winds + street.noses;
    }

    public int smell(int cell) {
        return isCell(cell) ? now.smells[cell] : OUTSIDE;
    }

    public int wind(int hour) {
        return hour >= 0 && hour < street.winds ? street.wind[hour] : NONE;
    }

    public int nose(int nose, int what) {
        if (!street.hasNose(nose)) {
            return UNKNOWN;
        }
        switch (what) {
            case 0:
                return street.cell[nose];
            case 1:
                return street.wants[nose];
            case 2:
                return street.price[nose];
            case 3:
                return street.contract[nose];
            case 4:
                return isIn(street.whoHas(now.smells), nose) ? 1 : 0;
            default:
                return OUTSIDE;
        }
    }

    public int pennies() {
        return now.pennies;
    }

    // ---- acts

    public int hour(boolean baked) {
        if (hoursLeft() == 0) {
            return STATE;
        }
        acts.remember(now);
        walk.start(now, street.baker);
        walk.take(baked ? 1 << now.hour : 0, 0);
        walk.leadOneHourOn(now);
        return walk.has[1];
    }

    public int chimney(int cell) {
        if (!isCell(cell)) {
            return OUTSIDE;
        }
        if (hoursLeft() == 0) {
            return STATE;
        }
        acts.remember(now);
        now.chimneys ^= 1 << cell;
        return isIn(now.chimneys, cell) ? 1 : 0;
    }

    public int undo() {
        return acts.takeBack(now) ? acts.size : STATE;
    }

    // ---- plans

    public int by(int plan) {
        if (!isPlan(plan)) {
            return OUTSIDE - LESS;
        }
        follow(plan);
        return walk.comes();
    }

    public int best(boolean pennies) {
        walk.start(now, street.baker);
        choice.findBest();
        return pennies ? choice.comes : choice.plan;
    }

    public int bestChimney() {
        int most = best(true);
        int found = NONE;
        for (int cell = 0; cell < CELLS; cell++) {
            supposed.copyFrom(now);
            supposed.chimneys ^= 1 << cell;
            walk.start(supposed, street.baker);
            choice.findBest();
            if (choice.comes > most) {
                most = choice.comes;
                found = cell;
            }
        }
        return found;
    }

    public int share(int nose, boolean upper) {
        if (!street.hasNose(nose)) {
            return UNKNOWN - LESS;
        }
        walk.start(now, street.baker);
        groups.weigh();
        return (int) told(groups.shareAbove(nose), FACTORIALS[street.noses], upper);
    }

    public int judge(int n, int row) {
        if (n < 1 || n > HOURS || row < 0 || row >= TENS[n]) {
            return OUTSIDE;
        }
        follow(planOfFigures(n, row));
        for (int place = 0; place < n; place++) {
            if (place >= walk.left || figureAt(n, row, place) > 1 || walk.comesInHour(place) < 0) {
                return place;
            }
        }
        return NONE;
    }

    public int had(int plan) {
        if (!isPlan(plan)) {
            return OUTSIDE;
        }
        follow(plan);
        return walk.whoHad();
    }

    public int only(int noses) {
        if (noses < 0 || noses >= 1 << street.noses) {
            return OUTSIDE;
        }
        walk.start(now, street.baker);
        return choice.findOnly(noses) ? choice.plan : NONE;
    }

    // ---- seen

    public int see(int nose, int hour, boolean has) {
        if (!street.hasNose(nose)) {
            return UNKNOWN;
        }
        if (hour < 0 || hour >= HOURS) {
            return OUTSIDE;
        }
        return sights.add(nose, hour, has) ? sights.size : FULL;
    }

    public int unsee() {
        int size = sights.size;
        sights.size = 0;
        return size;
    }

    public int when(int what) {
        if (what < 0 || what > 2) {
            return OUTSIDE;
        }
        supposed.begin();
        walk.start(supposed, street.baker);
        sights.explain(street, walk);
        if (what == 0) {
            return sights.plans;
        }
        if (sights.plans == 0) {
            return NONE;
        }
        return what == 1 ? sights.hoursOfAll : sights.hoursOfNone;
    }

    // ---- chances, two bakers

    public long mean(int plan, int x, boolean upper) {
        if (!isPlan(plan) || !areTenths(x)) {
            return OUTSIDE - FAR_LESS;
        }
        return told(meanAbove(EVERY_NOSE, plan, x), power(TENTHS, hoursLeft()), upper);
    }

    public long fair(int nose, int plan, int x, boolean upper) {
        if (!street.hasNose(nose)) {
            return UNKNOWN - FAR_LESS;
        }
        if (!isPlan(plan) || !areTenths(x)) {
            return OUTSIDE - FAR_LESS;
        }
        return told(meanAbove(nose, plan, x), power(TENTHS, hoursLeft()), upper);
    }

    public int bakers(int cell, int what) {
        if (!isCell(cell) || what < 0 || what > 1) {
            return OUTSIDE;
        }
        supposed.copyFrom(now);
        supposed.clearSmells();
        rivals.meet(now, supposed, cell);
        return what == 0 ? rivals.pairsAtRest : rivals.firstAtRest;
    }

    public long seed(long v) {
        long was = theSeed;
        theSeed = v;
        return was;
    }

    public int mornings(int m) {
        if (m < 1 || m > TIMES) {
            return OUTSIDE - LESS;
        }
        int sum = 0;
        for (int time = 0; time < m; time++) {
            follow(planOfSeed());
            sum += walk.comes();
        }
        return sum;
    }

    // ---- slots

    public int keep(int slot) {
        if (slot < 0 || slot >= SLOTS) {
            return UNKNOWN;
        }
        slots.put(slot, now);
        return now.hour;
    }

    public int again(int slot) {
        if (slot < 0 || slot >= SLOTS) {
            return UNKNOWN;
        }
        if (!slots.give(slot, now)) {
            return STATE;
        }
        acts.forget();
        return now.hour;
    }

    public int count(int what) {
        switch (what) {
            case 0:
                return text.length;
            case 1:
                return street.winds;
            case 2:
                return street.noses;
            case 3:
                return street.baker;
            case 4:
                return street.strength;
            case 5:
                return street.cost;
            case 6:
                return now.hour;
            case 7:
                return now.chimneys;
            case 8:
                return street.whoHas(now.smells);
            case 9:
                return acts.size;
            case 10:
                return sights.size;
            default:
                return OUTSIDE;
        }
    }

    // ---- what the calls share

    private static boolean isCell(int cell) {
        return cell >= 0 && cell < CELLS;
    }

    private static boolean isPlan(int plan) {
        return plan >= 0 && plan < 1 << HOURS;
    }

    private static boolean areTenths(int x) {
        return x >= 0 && x <= TENTHS;
    }

    private static boolean isIn(int set, int number) {
        return ((set >> number) & 1) == 1;
    }

    private int hoursLeft() {
        return street.winds - now.hour;
    }

    private void follow(int plan) {
        walk.start(now, street.baker);
        walk.take(plan, 0);
    }

    private static int figureAt(int n, int row, int place) {
        int behind = n - 1 - place;
        return behind >= 0 && behind < TENS.length ? row / TENS[behind] % 10 : 0;
    }

    private int planOfFigures(int n, int row) {
        int plan = 0;
        for (int place = 0; place < n; place++) {
            if (figureAt(n, row, place) == 1) {
                plan |= 1 << (now.hour + place);
            }
        }
        return plan;
    }

    private int planOfSeed() {
        int plan = 0;
        for (int hour = now.hour; hour < street.winds; hour++) {
            theSeed = theSeed * SEED_TIMES + SEED_MORE;
            if ((theSeed >>> SEED_UPPER) % 2 == 1) {
                plan |= 1 << hour;
            }
        }
        return plan;
    }

    /** The mean times 10 for each hour left: an hour without wind adds x and 10 - x, 10 in all. */
    private long meanAbove(int nose, int plan, int x) {
        walk.start(now, street.baker);
        long above = 0;
        for (int number = 0; number < walk.sets(); number++) {
            int turns = walk.set(number);
            walk.take(plan, turns);
            int turned = Integer.bitCount(turns);
            long chance = power(x, turned) * power(TENTHS - x, walk.left - turned);
            above += chance * (nose == EVERY_NOSE ? walk.comes() : walk.paidBy(nose));
        }
        return above;
    }

    private static long power(int base, int times) {
        long product = 1;
        for (int time = 0; time < times; time++) {
            product *= base;
        }
        return product;
    }

    private static long told(long above, long below, boolean upper) {
        long common = commonDivisor(Math.abs(above), below);
        return (upper ? above : below) / common;
    }

    private static long commonDivisor(long one, long other) {
        for (int round = 0; round < ROUNDS && other != 0; round++) {
            long rest = one % other;
            one = other;
            other = rest;
        }
        return Math.max(one, 1);
    }

    /** The letters that are written, and where they can be no street. */
    private static final class Text {
        final int[] letters = new int[LETTERS];
        int length;

        boolean add(int letter) {
            if (length >= LETTERS) {
                return false;
            }
            letters[length] = letter;
            length++;
            return true;
        }

        int letterAt(int place) {
            return place >= 0 && place < length ? letters[place] : 0;
        }

        int figure(int place) {
            return letterAt(place) - '0';
        }

        int windsTold() {
            int winds = 0;
            while (winds < HOURS && isWind(letterAt(HEAD_LETTERS + winds))) {
                winds++;
            }
            return winds;
        }

        int faultPlace() {
            int winds = windsTold();
            for (int place = 0; place < length; place++) {
                if (!fits(place, winds)) {
                    return place;
                }
            }
            return isWhole(winds) ? NONE : length;
        }

        private boolean isWhole(int winds) {
            return length >= HEAD_LETTERS && (length - HEAD_LETTERS - winds) % NOSE_LETTERS == 0;
        }

        private boolean fits(int place, int winds) {
            if (place < HEAD_LETTERS) {
                return fitsHead(place);
            }
            int behind = place - HEAD_LETTERS - winds;
            return behind < 0 || behind < NOSES * NOSE_LETTERS && fitsNose(place, behind % NOSE_LETTERS);
        }

        private boolean fitsHead(int place) {
            if (place == 0) {
                return letterAt(place) == 'S';
            }
            return isFigure(place, place == 2 ? 1 : 0, 9);
        }

        private boolean fitsNose(int place, int part) {
            if (part == 0) {
                return letterAt(place) == 'N';
            }
            return isFigure(place, part == 2 ? 1 : 0, part == 4 ? SENT_BACK : 9);
        }

        private boolean isFigure(int place, int least, int most) {
            return figure(place) >= least && figure(place) <= most;
        }

        private static boolean isWind(int letter) {
            return letter == 'E' || letter == 'W' || letter == '-';
        }
    }

    /** The street that holds now; at first it is S010. */
    private static final class Street {
        int baker;
        int strength = 1;
        int cost;
        int winds;
        int noses;
        final int[] wind = new int[HOURS];
        final int[] cell = new int[NOSES];
        final int[] wants = new int[NOSES];
        final int[] price = new int[NOSES];
        final int[] contract = new int[NOSES];

        /** The text has no fault. */
        void readFrom(Text text) {
            baker = text.figure(1);
            strength = text.figure(2);
            cost = text.figure(3);
            winds = text.windsTold();
            for (int hour = 0; hour < winds; hour++) {
                wind[hour] = windOf(text.letterAt(HEAD_LETTERS + hour));
            }
            noses = (text.length - HEAD_LETTERS - winds) / NOSE_LETTERS;
            for (int nose = 0; nose < noses; nose++) {
                int place = HEAD_LETTERS + winds + nose * NOSE_LETTERS;
                cell[nose] = text.figure(place + 1);
                wants[nose] = text.figure(place + 2);
                price[nose] = text.figure(place + 3);
                contract[nose] = text.figure(place + 4);
            }
        }

        private static int windOf(int letter) {
            if (letter == 'E') {
                return EAST;
            }
            return letter == 'W' ? WEST : 0;
        }

        boolean hasNose(int nose) {
            return nose >= 0 && nose < noses;
        }

        int whoHas(int[] smells) {
            int who = 0;
            for (int nose = 0; nose < noses; nose++) {
                if (smells[cell[nose]] >= wants[nose]) {
                    who |= 1 << nose;
                }
            }
            return who;
        }

        /** What a nose pays in an hour; below 0, if it gets it. */
        int due(int nose, boolean has, boolean east) {
            switch (contract[nose]) {
                case BY_THE_HOUR:
                    return has ? price[nose] : 0;
                case IN_ADVANCE:
                    return has ? 0 : -price[nose];
                case BY_EAST_WIND:
                    return has && east ? price[nose] : 0;
                default:
                    return has ? -price[nose] : 0;
            }
        }
    }

    /** How far a morning has come: what acts change, and what slots keep. */
    private static final class Morning {
        final int[] smells = new int[CELLS];
        int chimneys;
        int pennies;
        int hour;

        void begin() {
            clearSmells();
            chimneys = 0;
            pennies = 0;
            hour = 0;
        }

        void clearSmells() {
            for (int cell = 0; cell < CELLS; cell++) {
                smells[cell] = 0;
            }
        }

        void copyFrom(Morning other) {
            System.arraycopy(other.smells, 0, smells, 0, CELLS);
            chimneys = other.chimneys;
            pennies = other.pennies;
            hour = other.hour;
        }
    }

    /** The row of acts: a ring of mornings as they were before each, as smells can't be led back. */
    private static final class Acts {
        private final Morning[] before = new Morning[ACTS];
        private int next;
        int size;

        Acts() {
            for (int act = 0; act < ACTS; act++) {
                before[act] = new Morning();
            }
        }

        void forget() {
            size = 0;
        }

        void remember(Morning now) {
            before[next].copyFrom(now);
            next = (next + 1) % ACTS;
            size = Math.min(size + 1, ACTS);
        }

        boolean takeBack(Morning now) {
            if (size == 0) {
                return false;
            }
            next = (next + ACTS - 1) % ACTS;
            now.copyFrom(before[next]);
            size--;
            return true;
        }
    }

    /** Mornings that are kept. */
    private static final class Slots {
        private final Morning[] kept = new Morning[SLOTS];
        private final boolean[] isKept = new boolean[SLOTS];

        Slots() {
            for (int slot = 0; slot < SLOTS; slot++) {
                kept[slot] = new Morning();
            }
        }

        void forget() {
            for (int slot = 0; slot < SLOTS; slot++) {
                isKept[slot] = false;
            }
        }

        void put(int slot, Morning now) {
            kept[slot].copyFrom(now);
            isKept[slot] = true;
        }

        boolean give(int slot, Morning now) {
            if (isKept[slot]) {
                now.copyFrom(kept[slot]);
            }
            return isKept[slot];
        }
    }

    /**
     * The hours left of a morning as they would come by a plan and by winds that turn. Row g of each
     * field is how it stands when g of the hours left have gone; a new plan is followed only from
     * the first hour on in which it differs from the last one.
     */
    private static final class Walk {
        private final Street street;
        final int[][] smells = new int[HOURS + 1][CELLS];
        private final int[][] paid = new int[HOURS + 1][NOSES];
        private final int[] pennies = new int[HOURS + 1];
        private final int[] had = new int[HOURS + 1];
        final int[] has = new int[HOURS + 1];
        private int chimneys;
        private int baker;
        private int plan;
        private int turns;
        private int followed;
        int firstHour;
        int left;

        Walk(Street street) {
            this.street = street;
        }

        void start(Morning from, int bakerCell) {
            System.arraycopy(from.smells, 0, smells[0], 0, CELLS);
            chimneys = from.chimneys;
            baker = bakerCell;
            firstHour = from.hour;
            left = street.winds - from.hour;
            followed = 0;
        }

        /** How many sets of hours left there are. */
        int sets() {
            return 1 << left;
        }

        /** One of these: the last hour goes in and out fastest, so that as little as can be is followed anew. */
        int set(int number) {
            int hours = 0;
            for (int back = 0; back < left; back++) {
                if (isIn(number, back)) {
                    hours |= 1 << (firstHour + left - 1 - back);
                }
            }
            return hours;
        }

        void take(int newPlan, int newTurns) {
            int changed = (newPlan ^ plan) | (newTurns ^ turns);
            int same = 0;
            while (same < followed && !isIn(changed, firstHour + same)) {
                same++;
            }
            plan = newPlan;
            turns = newTurns;
            for (int gone = same; gone < left; gone++) {
                pass(gone);
            }
            followed = left;
        }

        private void pass(int gone) {
            int hour = firstHour + gone;
            int wind = isIn(turns, hour) ? -street.wind[hour] : street.wind[hour];
            boolean baked = isIn(plan, hour);
            int[] then = smells[gone + 1];
            drift(smells[gone], then, wind);
            if (baked) {
                then[baker] += street.strength;
            }
            emptyChimneys(then);
            settle(gone, baked, wind == EAST);
        }

        private static void drift(int[] before, int[] then, int wind) {
            for (int cell = 0; cell < CELLS; cell++) {
                int from = cell - wind;
                int strength = from >= 0 && from < CELLS ? before[from] : 0;
                then[cell] = strength > 0 ? strength - 1 : 0;
            }
        }

        private void emptyChimneys(int[] then) {
            for (int cell = 0; cell < CELLS && chimneys >> cell != 0; cell++) {
                if (isIn(chimneys, cell)) {
                    then[cell] = 0;
                }
            }
        }

        private void settle(int gone, boolean baked, boolean east) {
            int who = street.whoHas(smells[gone + 1]);
            int comes = baked ? -street.cost : 0;
            for (int nose = 0; nose < street.noses; nose++) {
                int due = street.due(nose, isIn(who, nose), east);
                paid[gone + 1][nose] = paid[gone][nose] + due;
                comes += due;
            }
            pennies[gone + 1] = pennies[gone] + comes;
            had[gone + 1] = had[gone] | who;
            has[gone + 1] = who;
        }

        int comes() {
            return pennies[left];
        }

        int comesInHour(int gone) {
            return pennies[gone + 1] - pennies[gone];
        }

        int paidBy(int nose) {
            return paid[left][nose];
        }

        int whoHad() {
            return had[left];
        }

        void leadOneHourOn(Morning now) {
            System.arraycopy(smells[1], 0, now.smells, 0, CELLS);
            now.pennies += pennies[1];
            now.hour++;
        }
    }

    /** The plan that is looked for, among all of a walk that has been started. */
    private static final class Choice {
        private final Walk walk;
        int plan;
        int comes;

        Choice(Walk walk) {
            this.walk = walk;
        }

        void findBest() {
            for (int number = 0; number < walk.sets(); number++) {
                int next = walk.set(number);
                walk.take(next, 0);
                int more = walk.comes() - comes;
                if (number == 0 || more > 0 || more == 0 && isSmaller(next, plan)) {
                    plan = next;
                    comes = walk.comes();
                }
            }
        }

        boolean findOnly(int noses) {
            boolean found = false;
            for (int number = 0; number < walk.sets(); number++) {
                int next = walk.set(number);
                walk.take(next, 0);
                if (walk.whoHad() == noses && (!found || isSmaller(next, plan))) {
                    plan = next;
                    found = true;
                }
            }
            return found;
        }

        private static boolean isSmaller(int one, int other) {
            int fewer = Integer.bitCount(other) - Integer.bitCount(one);
            return fewer > 0 || fewer == 0 && one < other;
        }
    }

    /** What comes by the best plan, when only some of the noses have come. */
    private static final class Groups {
        private final Street street;
        private final Walk walk;
        private final int[] worth = new int[1 << NOSES];
        private final int[] comes = new int[1 << NOSES];

        Groups(Street street, Walk walk) {
            this.street = street;
            this.walk = walk;
        }

        void weigh() {
            for (int number = 0; number < walk.sets(); number++) {
                int plan = walk.set(number);
                walk.take(plan, 0);
                addUp(plan);
                for (int group = 0; group < 1 << street.noses; group++) {
                    if (number == 0 || comes[group] > worth[group]) {
                        worth[group] = comes[group];
                    }
                }
            }
        }

        private void addUp(int plan) {
            comes[0] = -street.cost * Integer.bitCount(plan);
            for (int nose = 0; nose < street.noses; nose++) {
                int alone = 1 << nose;
                for (int group = 0; group < alone; group++) {
                    comes[alone | group] = comes[group] + walk.paidBy(nose);
                }
            }
        }

        /** The share times the number of orders. */
        long shareAbove(int nose) {
            long above = 0;
            int others = street.noses - 1;
            for (int group = 0; group < 1 << street.noses; group++) {
                if (!isIn(group, nose)) {
                    int ahead = Integer.bitCount(group);
                    int orders = FACTORIALS[ahead] * FACTORIALS[others - ahead];
                    above += (long) orders * (worth[group | (1 << nose)] - worth[group]);
                }
            }
            return above;
        }
    }

    /** What is seen, and by which plans it can be so. */
    private static final class Sights {
        private final int[] noses = new int[SIGHTS];
        private final int[] hours = new int[SIGHTS];
        private final boolean[] had = new boolean[SIGHTS];
        int size;
        int plans;
        int hoursOfAll;
        int hoursOfNone;

        boolean add(int nose, int hour, boolean has) {
            if (size >= SIGHTS) {
                return false;
            }
            noses[size] = nose;
            hours[size] = hour;
            had[size] = has;
            size++;
            return true;
        }

        /** The walk has been started from the beginning. */
        void explain(Street street, Walk walk) {
            plans = 0;
            hoursOfAll = walk.sets() - 1;
            hoursOfNone = hoursOfAll;
            for (int number = 0; number < walk.sets(); number++) {
                int plan = walk.set(number);
                walk.take(plan, 0);
                if (agree(street, walk)) {
                    plans++;
                    hoursOfAll &= plan;
                    hoursOfNone &= ~plan;
                }
            }
        }

        private boolean agree(Street street, Walk walk) {
            for (int sight = 0; sight < size; sight++) {
                boolean counts = noses[sight] < street.noses && hours[sight] < street.winds;
                if (counts && isIn(walk.has[hours[sight] + 1], noses[sight]) != had[sight]) {
                    return false;
                }
            }
            return true;
        }
    }

    /** Two bakers, each with a choice of one hour left (counted from the first one left) or, last, of none. */
    private static final class Rivals {
        private final Street street;
        private final Walk walk;
        /** By choice: how strong it is in an hour for a nose. */
        private final int[][] ofFirst = new int[HOURS + 1][HOURS * NOSES];
        private final int[][] ofSecond = new int[HOURS + 1][HOURS * NOSES];
        /** By the first one's choice, then the second one's. */
        private final int[][] firstHas = new int[HOURS + 1][HOURS + 1];
        private final int[][] secondHas = new int[HOURS + 1][HOURS + 1];
        int pairsAtRest;
        int firstAtRest;

        Rivals(Street street, Walk walk) {
            this.street = street;
            this.walk = walk;
        }

        /** The smell that there is now is the first one's. */
        void meet(Morning ofFirstNow, Morning ofSecondNow, int secondCell) {
            follow(ofFirstNow, street.baker, ofFirst);
            follow(ofSecondNow, secondCell, ofSecond);
            for (int one = 0; one <= walk.left; one++) {
                for (int other = 0; other <= walk.left; other++) {
                    divide(one, other);
                }
            }
            findRest();
        }

        private void follow(Morning from, int bakerCell, int[][] strengths) {
            walk.start(from, bakerCell);
            for (int choice = 0; choice <= walk.left; choice++) {
                walk.take(choice < walk.left ? 1 << (walk.firstHour + choice) : 0, 0);
                for (int gone = 0; gone < walk.left; gone++) {
                    for (int nose = 0; nose < street.noses; nose++) {
                        strengths[choice][gone * NOSES + nose] = walk.smells[gone + 1][street.cell[nose]];
                    }
                }
            }
        }

        private void divide(int one, int other) {
            int first = one < walk.left ? -street.cost : 0;
            int second = other < walk.left ? -street.cost : 0;
            for (int gone = 0; gone < walk.left; gone++) {
                boolean east = street.wind[walk.firstHour + gone] == EAST;
                for (int nose = 0; nose < street.noses; nose++) {
                    int mine = ofFirst[one][gone * NOSES + nose];
                    int yours = ofSecond[other][gone * NOSES + nose];
                    int due = street.due(nose, Math.max(mine, yours) >= street.wants[nose], east);
                    if (due > 0 && yours > mine) {
                        second += due;
                    } else {
                        first += due;
                    }
                }
            }
            firstHas[one][other] = first;
            secondHas[one][other] = second;
        }

        private void findRest() {
            pairsAtRest = 0;
            firstAtRest = NONE;
            for (int one = 0; one <= walk.left; one++) {
                for (int other = 0; other <= walk.left; other++) {
                    if (isAtRest(one, other)) {
                        pairsAtRest++;
                        if (pairsAtRest == 1) {
                            firstAtRest = 10 * hourOf(one) + hourOf(other);
                        }
                    }
                }
            }
        }

        private boolean isAtRest(int one, int other) {
            for (int choice = 0; choice <= walk.left; choice++) {
                if (firstHas[choice][other] > firstHas[one][other]
                        || secondHas[one][choice] > secondHas[one][other]) {
                    return false;
                }
            }
            return true;
        }

        private int hourOf(int choice) {
            return choice < walk.left ? walk.firstHour + choice : NO_HOUR;
        }
    }
}
