import java.math.BigInteger;
import java.util.ArrayDeque;
import java.util.ArrayList;
import java.util.Deque;
import java.util.List;
import java.util.Random;

/**
 * Many runs of calls by chance (with a fixed seed), each answer held against a second program that is
 * written from the document as slowly and plainly as can be: by copies, trees and lists of orders.
 */
public final class ReferenceTest {
    private static final Due DUE = new Due("ReferenceTest");
    private static final int NONE = -99;

    public static void main(String[] args) {
        for (int run = 0; run < 600 && DUE.wrongSoFar() < 20; run++) {
            new Run(run).go(run % 2 == 0 ? 512 : 150);
        }
        DUE.end();
    }

    /** What an hour does to smells and pennies, told as a value. */
    private static final class Air {
        final int[] smell;
        final int hour;
        final int pennies;
        final int has;
        final int[] paid;

        Air(int[] smell, int hour, int pennies, int has, int[] paid) {
            this.smell = smell;
            this.hour = hour;
            this.pennies = pennies;
            this.has = has;
            this.paid = paid;
        }
    }

    private static final class Saved {
        final Air air;
        final int chimneys;

        Saved(Air air, int chimneys) {
            this.air = air;
            this.chimneys = chimneys;
        }
    }

    private static final class Model {
        String text = "";
        int baker = 0;
        int strength = 1;
        int cost = 0;
        String winds = "";
        List<int[]> noses = new ArrayList<>();
        Air air = empty();
        int chimneys = 0;
        Deque<Saved> acts = new ArrayDeque<>();
        Saved[] slots = new Saved[2];
        List<int[]> seen = new ArrayList<>();
        long seed = 0;

        static Air empty() {
            return new Air(new int[10], 0, 0, 0, new int[6]);
        }

        static boolean begins(String text) {
            return text.matches("(S([0-9]([1-9]([0-9]([EW-]{0,8}(N[0-9][1-9][0-9][0-3]){0,6}"
                    + "(N([0-9]([1-9]([0-9])?)?)?)?)?)?)?)?)?") && wholeNoses(text) <= 6;
        }

        static int wholeNoses(String text) {
            return text.length() - text.replace("N", "").length();
        }

        static boolean isStreet(String text) {
            return text.matches("S[0-9][1-9][0-9][EW-]{0,8}(N[0-9][1-9][0-9][0-3]){0,6}");
        }

        int fault() {
            for (int length = 1; length <= text.length(); length++) {
                if (!begins(text.substring(0, length))) {
                    return length - 1;
                }
            }
            return isStreet(text) ? NONE : text.length();
        }

        int street() {
            if (!isStreet(text)) {
                return -3;
            }
            baker = text.charAt(1) - '0';
            strength = text.charAt(2) - '0';
            cost = text.charAt(3) - '0';
            int end = text.indexOf('N') < 0 ? text.length() : text.indexOf('N');
            winds = text.substring(4, end);
            noses = new ArrayList<>();
            for (int at = end; at < text.length(); at += 5) {
                noses.add(new int[] {text.charAt(at + 1) - '0', text.charAt(at + 2) - '0',
                    text.charAt(at + 3) - '0', text.charAt(at + 4) - '0'});
            }
            air = empty();
            chimneys = 0;
            acts.clear();
            slots = new Saved[2];
            return 10 * winds.length() + noses.size();
        }

        int windOf(int hour) {
            return "W-E".indexOf(winds.charAt(hour)) - 1;
        }

        int left() {
            return winds.length() - air.hour;
        }

        static int[] blown(int[] smell, int wind, int cell, int more, int chimneys) {
            int[] then = new int[10];
            for (int from = 0; from < 10; from++) {
                int to = from + wind;
                if (to >= 0 && to <= 9) {
                    then[to] = Math.max(0, smell[from] - 1);
                }
            }
            then[cell] += more;
            for (int at = 0; at < 10; at++) {
                if ((chimneys & (1 << at)) != 0) {
                    then[at] = 0;
                }
            }
            return then;
        }

        static int pays(int[] nose, boolean has, int wind) {
            int contract = nose[3];
            if (contract == 0 && has) {
                return nose[2];
            }
            if (contract == 1 && !has) {
                return -nose[2];
            }
            if (contract == 2 && has && wind == 1) {
                return nose[2];
            }
            return contract == 3 && has ? -nose[2] : 0;
        }

        /** An hour; group: the noses (bits) that pay or get. */
        Air passed(Air from, boolean baked, int wind, int chimneys, int group) {
            int[] smell = blown(from.smell, wind, baker, baked ? strength : 0, chimneys);
            int pennies = from.pennies - (baked ? cost : 0);
            int has = 0;
            int[] paid = from.paid.clone();
            for (int n = 0; n < noses.size(); n++) {
                boolean strong = smell[noses.get(n)[0]] >= noses.get(n)[1];
                has += strong ? 1 << n : 0;
                int due = (group & (1 << n)) != 0 ? pays(noses.get(n), strong, wind) : 0;
                paid[n] += due;
                pennies += due;
            }
            return new Air(smell, from.hour + 1, pennies, has, paid);
        }

        List<Air> followed(Air from, int plan, int chimneys, int group) {
            List<Air> row = new ArrayList<>();
            row.add(from);
            Air at = from;
            while (at.hour < winds.length()) {
                at = passed(at, (plan & (1 << at.hour)) != 0, windOf(at.hour), chimneys, group);
                row.add(at);
            }
            return row;
        }

        int comes(int plan, int chimneys, int group) {
            List<Air> row = followed(air, plan, chimneys, group);
            return row.get(row.size() - 1).pennies - air.pennies;
        }

        List<Integer> plans() {
            List<Integer> all = new ArrayList<>();
            int gone = (1 << air.hour) - 1;
            for (int plan = 0; plan < 1 << winds.length(); plan++) {
                if ((plan & gone) == 0) {
                    all.add(plan);
                }
            }
            all.sort((a, b) -> Integer.bitCount(a) != Integer.bitCount(b)
                    ? Integer.bitCount(a) - Integer.bitCount(b) : a - b);
            return all;
        }

        int bestPlan(int chimneys, int group) {
            int best = 0;
            for (int plan : plans()) {
                if (comes(plan, chimneys, group) > comes(best, chimneys, group)) {
                    best = plan;
                }
            }
            return best;
        }

        int bestComes(int chimneys, int group) {
            return comes(bestPlan(chimneys, group), chimneys, group);
        }

        int bestChimney() {
            int without = bestComes(chimneys, 63);
            int best = NONE;
            int most = without;
            for (int cell = 9; cell >= 0; cell--) {
                int with = bestComes(chimneys ^ (1 << cell), 63);
                if (with > without && with >= most) {
                    best = cell;
                    most = with;
                }
            }
            return best;
        }

        static void orders(int ahead, int noses, List<Integer> order, List<List<Integer>> all) {
            if (order.size() == noses) {
                all.add(new ArrayList<>(order));
                return;
            }
            for (int n = 0; n < noses; n++) {
                if ((ahead & (1 << n)) == 0) {
                    order.add(n);
                    orders(ahead | (1 << n), noses, order, all);
                    order.remove(order.size() - 1);
                }
            }
        }

        long share(int nose, boolean upper) {
            if (nose < 0 || nose >= noses.size()) {
                return -1000001;
            }
            Integer[] worth = new Integer[64];
            List<List<Integer>> all = new ArrayList<>();
            orders(0, noses.size(), new ArrayList<>(), all);
            long sum = 0;
            for (List<Integer> order : all) {
                int come = 0;
                for (int at = 0; order.get(at) != nose; at++) {
                    come |= 1 << order.get(at);
                }
                for (int group : new int[] {come, come | (1 << nose)}) {
                    if (worth[group] == null) {
                        worth[group] = bestComes(chimneys, group);
                    }
                }
                sum += worth[come | (1 << nose)] - worth[come];
            }
            return least(BigInteger.valueOf(sum), BigInteger.valueOf(all.size()), upper);
        }

        static long least(BigInteger above, BigInteger below, boolean upper) {
            BigInteger common = above.gcd(below);
            return (upper ? above : below).divide(common).longValueExact();
        }

        int judge(int n, int row) {
            if (n < 1 || n > 8 || row < 0 || Integer.toString(row).length() > n) {
                return -2;
            }
            String figures = Integer.toString(row);
            while (figures.length() < n) {
                figures = "0" + figures;
            }
            Air at = air;
            for (int place = 0; place < n; place++) {
                char figure = figures.charAt(place);
                if (at.hour == winds.length() || figure != '0' && figure != '1') {
                    return place;
                }
                Air then = passed(at, figure == '1', windOf(at.hour), chimneys, 63);
                if (then.pennies < at.pennies) {
                    return place;
                }
                at = then;
            }
            return NONE;
        }

        int had(int plan) {
            int had = 0;
            List<Air> row = followed(air, plan, chimneys, 63);
            for (Air at : row.subList(1, row.size())) {
                had |= at.has;
            }
            return had;
        }

        int only(int told) {
            if (told < 0 || told >= 1 << noses.size()) {
                return -2;
            }
            for (int plan : plans()) {
                if (had(plan) == told) {
                    return plan;
                }
            }
            return NONE;
        }

        boolean agrees(int plan) {
            List<Air> row = followed(empty(), plan, 0, 63);
            for (int[] sight : seen) {
                if (sight[0] < noses.size() && sight[1] < winds.length()) {
                    int has = (row.get(sight[1] + 1).has >> sight[0]) & 1;
                    if (has != sight[2]) {
                        return false;
                    }
                }
            }
            return true;
        }

        int when(int what) {
            if (what < 0 || what > 2) {
                return -2;
            }
            List<Integer> fit = new ArrayList<>();
            for (int plan = 0; plan < 1 << winds.length(); plan++) {
                if (agrees(plan)) {
                    fit.add(plan);
                }
            }
            if (what == 0) {
                return fit.size();
            }
            if (fit.isEmpty()) {
                return NONE;
            }
            int hours = 0;
            for (int hour = 0; hour < winds.length(); hour++) {
                int bit = 1 << hour;
                long in = fit.stream().filter(plan -> (plan & bit) != 0).count();
                if (what == 1 && in == fit.size() || what == 2 && in == 0) {
                    hours |= bit;
                }
            }
            return hours;
        }

        /** Above and below, not in least terms: the mean of each wind's two ways, hour by hour. */
        BigInteger[] meanFrom(Air at, int plan, int x, int nose) {
            if (at.hour == winds.length()) {
                int worth = nose < 0 ? at.pennies - air.pennies : at.paid[nose] - air.paid[nose];
                return new BigInteger[] {BigInteger.valueOf(worth), BigInteger.ONE};
            }
            boolean baked = (plan & (1 << at.hour)) != 0;
            int wind = windOf(at.hour);
            BigInteger[] as = meanFrom(passed(at, baked, wind, chimneys, 63), plan, x, nose);
            if (wind == 0) {
                return as;
            }
            BigInteger[] turned = meanFrom(passed(at, baked, -wind, chimneys, 63), plan, x, nose);
            BigInteger above = as[0].multiply(turned[1]).multiply(BigInteger.valueOf(10 - x))
                    .add(turned[0].multiply(as[1]).multiply(BigInteger.valueOf(x)));
            return new BigInteger[] {above, as[1].multiply(turned[1]).multiply(BigInteger.TEN)};
        }

        long mean(int plan, int x, boolean upper) {
            if (plan < 0 || plan > 255 || x < 0 || x > 10) {
                return -1000000000002L;
            }
            BigInteger[] mean = meanFrom(air, plan, x, -1);
            return least(mean[0], mean[1], upper);
        }

        long fair(int nose, int plan, int x, boolean upper) {
            if (nose < 0 || nose >= noses.size()) {
                return -1000000000001L;
            }
            if (plan < 0 || plan > 255 || x < 0 || x > 10) {
                return -1000000000002L;
            }
            BigInteger[] mean = meanFrom(air, plan, x, nose);
            return least(mean[0], mean[1], upper);
        }

        /** What both bakers have, if they bake in these hours (9: none). */
        int[] gains(int cell, int one, int other) {
            int[] gains = {one == 9 ? 0 : -cost, other == 9 ? 0 : -cost};
            int[] mine = air.smell;
            int[] yours = new int[10];
            for (int hour = air.hour; hour < winds.length(); hour++) {
                mine = blown(mine, windOf(hour), baker, hour == one ? strength : 0, chimneys);
                yours = blown(yours, windOf(hour), cell, hour == other ? strength : 0, chimneys);
                for (int[] nose : noses) {
                    int first = mine[nose[0]];
                    int second = yours[nose[0]];
                    int due = pays(nose, first >= nose[1] || second >= nose[1], windOf(hour));
                    gains[due > 0 && second > first ? 1 : 0] += due;
                }
            }
            return gains;
        }

        int bakers(int cell, int what) {
            if (cell < 0 || cell > 9 || what < 0 || what > 1) {
                return -2;
            }
            List<Integer> choices = new ArrayList<>();
            for (int hour = air.hour; hour < winds.length(); hour++) {
                choices.add(hour);
            }
            choices.add(9);
            int pairs = 0;
            int first = NONE;
            for (int one : choices) {
                for (int other : choices) {
                    int[] has = gains(cell, one, other);
                    boolean rest = choices.stream().allMatch(choice -> gains(cell, choice, other)[0] <= has[0]
                            && gains(cell, one, choice)[1] <= has[1]);
                    if (rest) {
                        first = pairs == 0 ? 10 * one + other : first;
                        pairs++;
                    }
                }
            }
            return what == 0 ? pairs : first;
        }

        int mornings(int m) {
            if (m < 1 || m > 20) {
                return -1000002;
            }
            BigInteger two64 = BigInteger.ONE.shiftLeft(64);
            int sum = 0;
            for (int time = 0; time < m; time++) {
                int plan = 0;
                for (int hour = air.hour; hour < winds.length(); hour++) {
                    BigInteger x = BigInteger.valueOf(seed).multiply(BigInteger.valueOf(6364136223846793005L))
                            .add(BigInteger.valueOf(1442695040888963407L)).mod(two64);
                    seed = x.longValue();
                    plan |= x.testBit(33) ? 1 << hour : 0;
                }
                sum += comes(plan, chimneys, 63);
            }
            return sum;
        }

        void remember() {
            acts.addLast(new Saved(air, chimneys));
            if (acts.size() > 14) {
                acts.removeFirst();
            }
        }

        int hour(boolean baked) {
            if (left() == 0) {
                return -3;
            }
            remember();
            air = passed(air, baked, windOf(air.hour), chimneys, 63);
            return air.has;
        }

        int chimney(int cell) {
            if (cell < 0 || cell > 9) {
                return -2;
            }
            if (left() == 0) {
                return -3;
            }
            remember();
            chimneys ^= 1 << cell;
            return (chimneys >> cell) & 1;
        }

        int undo() {
            if (acts.isEmpty()) {
                return -3;
            }
            Saved last = acts.removeLast();
            air = last.air;
            chimneys = last.chimneys;
            return acts.size();
        }

        int keep(int slot) {
            if (slot < 0 || slot > 1) {
                return -1;
            }
            slots[slot] = new Saved(air, chimneys);
            return air.hour;
        }

        int again(int slot) {
            if (slot < 0 || slot > 1) {
                return -1;
            }
            if (slots[slot] == null) {
                return -3;
            }
            air = slots[slot].air;
            chimneys = slots[slot].chimneys;
            acts.clear();
            return air.hour;
        }

        int see(int nose, int hour, boolean has) {
            if (nose < 0 || nose >= noses.size()) {
                return -1;
            }
            if (hour < 0 || hour > 7) {
                return -2;
            }
            if (seen.size() == 6) {
                return -4;
            }
            seen.add(new int[] {nose, hour, has ? 1 : 0});
            return seen.size();
        }

        int nose(int nose, int what) {
            if (nose < 0 || nose >= noses.size()) {
                return -1;
            }
            if (what < 0 || what > 4) {
                return -2;
            }
            return what < 4 ? noses.get(nose)[what] : (air.has >> nose) & 1;
        }

        int count(int what) {
            int[] all = {text.length(), winds.length(), noses.size(), baker, strength, cost, air.hour, chimneys,
                air.has, acts.size(), seen.size()};
            return what < 0 || what > 10 ? -2 : all[what];
        }
    }

    private static final class Run {
        final int number;
        final Random chance;
        final Model model = new Model();
        final MorningBill bill = new MorningBill();
        int calls;

        Run(int number) {
            this.number = number;
            this.chance = new Random(number);
        }

        void due(String call, long got, long want) {
            calls++;
            DUE.is("run " + number + ": " + call, got, want);
        }

        /** From below to above, and now and then a number that is not as told. */
        int some(int low, int high) {
            int way = chance.nextInt(40);
            if (way == 0) {
                return low - 1;
            }
            if (way == 1) {
                return high + 1;
            }
            return way == 2 && chance.nextInt(10) == 0 ? chance.nextInt() : low + chance.nextInt(high - low + 1);
        }

        void write(int letter) {
            int want = letter < 0 || letter > 255 ? -2 : model.text.length() == 48 ? -4 : model.text.length() + 1;
            if (want > 0) {
                model.text += (char) letter;
            }
            due("write(" + letter + ")", bill.write(letter), want);
        }

        void wipe() {
            due("wipe()", bill.wipe(), model.text.length());
            model.text = "";
        }

        String streetByChance() {
            int spread = chance.nextInt(3) == 0 ? 10 : 4;
            int from = chance.nextInt(11 - spread);
            StringBuilder text = new StringBuilder("S");
            text.append(from + chance.nextInt(spread)).append(1 + chance.nextInt(9)).append(chance.nextInt(10));
            int winds = chance.nextInt(4) == 0 ? chance.nextInt(9) : number % 10 == 0 ? 8 : chance.nextInt(7);
            for (int hour = 0; hour < winds; hour++) {
                text.append("EW-".charAt(chance.nextInt(3)));
            }
            int noses = number % 10 == 0 ? chance.nextInt(4) : chance.nextInt(7);
            for (int nose = 0; nose < noses; nose++) {
                text.append('N').append(from + chance.nextInt(spread)).append(1 + chance.nextInt(9));
                text.append(chance.nextInt(10)).append(chance.nextInt(4));
            }
            return text.toString();
        }

        void writeStreet() {
            String text = streetByChance();
            if (chance.nextInt(5) == 0) {
                text = spoiled(text);
            }
            wipe();
            for (char letter : text.toCharArray()) {
                write(letter);
            }
            due("fault() of " + text, bill.fault(), model.fault());
            due("street() of " + text, bill.street(), model.street());
        }

        String spoiled(String text) {
            int at = chance.nextInt(text.length() + 1);
            char letter = "SNEW-0123456789:/X".charAt(chance.nextInt(18));
            switch (chance.nextInt(3)) {
                case 0:
                    return text.substring(0, at);
                case 1:
                    return text.substring(0, at) + letter + text.substring(at);
                default:
                    return text.substring(0, at) + letter + text.substring(Math.min(at + 1, text.length()));
            }
        }

        /** An object is used for as many calls at most; a street takes under 60 of them, a look 17. */
        void go(int most) {
            writeStreet();
            while (calls + 20 <= most && DUE.wrongSoFar() < 20) {
                if (chance.nextInt(80) == 0 && calls + 60 <= most) {
                    writeStreet();
                } else if (chance.nextInt(3) == 0) {
                    act();
                } else {
                    ask();
                }
            }
            while (calls < most) {
                act();
            }
        }

        void act() {
            switch (chance.nextInt(8)) {
                case 0:
                case 1:
                    boolean baked = chance.nextBoolean();
                    due("hour(" + baked + ")", bill.hour(baked), model.hour(baked));
                    break;
                case 2:
                    int cell = some(0, 9);
                    due("chimney(" + cell + ")", bill.chimney(cell), model.chimney(cell));
                    break;
                case 3:
                    due("undo()", bill.undo(), model.undo());
                    break;
                case 4:
                    int slot = some(0, 1);
                    due("keep(" + slot + ")", bill.keep(slot), model.keep(slot));
                    break;
                case 5:
                    int from = some(0, 1);
                    due("again(" + from + ")", bill.again(from), model.again(from));
                    break;
                case 6:
                    see();
                    break;
                default:
                    long v = chance.nextLong();
                    due("seed(" + v + ")", bill.seed(v), model.seed);
                    model.seed = v;
                    break;
            }
        }

        void see() {
            if (chance.nextInt(6) == 0) {
                due("unsee()", bill.unsee(), model.seen.size());
                model.seen.clear();
                return;
            }
            int nose = some(0, 5);
            int hour = some(0, 7);
            boolean has = chance.nextInt(3) == 0;
            due("see(" + nose + ", " + hour + ", " + has + ")", bill.see(nose, hour, has),
                    model.see(nose, hour, has));
        }

        void ask() {
            int plan = some(0, 255);
            boolean upper = chance.nextBoolean();
            switch (chance.nextInt(12)) {
                case 0:
                    due("by(" + plan + ")", bill.by(plan),
                            plan < 0 || plan > 255 ? -1000002 : model.comes(plan, model.chimneys, 63));
                    break;
                case 1:
                    int best = model.bestPlan(model.chimneys, 63);
                    due("best(false)", bill.best(false), best);
                    due("best(true)", bill.best(true), model.comes(best, model.chimneys, 63));
                    break;
                case 2:
                    due("bestChimney()", bill.bestChimney(), model.bestChimney());
                    break;
                case 3:
                    int nose = some(0, 5);
                    if (model.left() < 8 || model.noses.size() < 6) {
                        due("share(" + nose + ", " + upper + ")", bill.share(nose, upper), model.share(nose, upper));
                    }
                    break;
                case 4:
                    judge();
                    break;
                case 5:
                    due("had(" + plan + ")", bill.had(plan), plan < 0 || plan > 255 ? -2 : model.had(plan));
                    break;
                case 6:
                    int noses = some(0, Math.max(0, (1 << model.noses.size()) - 1));
                    noses = chance.nextBoolean() && plan >= 0 && plan < 256 ? model.had(plan) : noses;
                    due("only(" + noses + ")", bill.only(noses), model.only(noses));
                    break;
                case 7:
                    int what = some(0, 2);
                    due("when(" + what + ")", bill.when(what), model.when(what));
                    break;
                case 8:
                    means(plan, upper);
                    break;
                case 9:
                    int cell = some(0, 9);
                    int pair = some(0, 1);
                    due("bakers(" + cell + ", " + pair + ")", bill.bakers(cell, pair), model.bakers(cell, pair));
                    break;
                case 10:
                    int m = some(1, 20);
                    due("mornings(" + m + ")", bill.mornings(m), model.mornings(m));
                    break;
                default:
                    look();
                    break;
            }
        }

        void judge() {
            int n = some(1, 8);
            int row = 0;
            for (int place = 0; place < n && place < 8; place++) {
                row = row * 10 + (chance.nextInt(15) == 0 ? chance.nextInt(10) : chance.nextInt(2));
            }
            row = chance.nextInt(20) == 0 ? row * 10 : chance.nextInt(20) == 0 ? -row : row;
            due("judge(" + n + ", " + row + ")", bill.judge(n, row), model.judge(n, row));
        }

        void means(int plan, boolean upper) {
            int x = some(0, 10);
            if (chance.nextBoolean()) {
                due("mean(" + plan + ", " + x + ", " + upper + ")", bill.mean(plan, x, upper),
                        model.mean(plan, x, upper));
            } else {
                int nose = some(0, 5);
                due("fair(" + nose + ", " + plan + ", " + x + ", " + upper + ")", bill.fair(nose, plan, x, upper),
                        model.fair(nose, plan, x, upper));
            }
        }

        void look() {
            int cell = some(0, 9);
            due("smell(" + cell + ")", bill.smell(cell), cell < 0 || cell > 9 ? -2 : model.air.smell[cell]);
            int hour = some(0, 8);
            due("wind(" + hour + ")", bill.wind(hour),
                    hour < 0 || hour >= model.winds.length() ? NONE : model.windOf(hour));
            int nose = some(0, 5);
            int of = some(0, 4);
            due("nose(" + nose + ", " + of + ")", bill.nose(nose, of), model.nose(nose, of));
            due("pennies()", bill.pennies(), model.air.pennies);
            for (int what = -1; what <= 11; what++) {
                due("count(" + what + ")", bill.count(what), model.count(what));
            }
        }
    }
}
