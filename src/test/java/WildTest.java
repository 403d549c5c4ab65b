import java.lang.reflect.InvocationTargetException;
import java.lang.reflect.Method;
import java.lang.reflect.Modifier;
import java.util.Arrays;
import java.util.Comparator;
import java.util.List;
import java.util.Map;
import java.util.Random;

/** Any number in any state: no call throws, and each answer is one of those that the document's numbers leave. */
public final class WildTest {
    private static final Due DUE = new Due("WildTest");
    private static final int OBJECTS = 200;
    /** An object is used for 512 calls; a street takes under 60 of them. */
    private static final int CALLS = 512 - 60;
    private static final int[] NUMBERS = {
        Integer.MIN_VALUE, Integer.MIN_VALUE + 1, -1000000, -256, -99, -10, -2, -1, 0, 1, 2, 3, 4, 5, 6, 7, 8, 9, 10,
        11, 12, 20, 21, 31, 32, 33, 47, 48, 49, 63, 64, 99, 128, 255, 256, 257, 11111111, 100000000, 1 << 30,
        Integer.MAX_VALUE - 1, Integer.MAX_VALUE,
    };

    /** What six noses may pay in eight hours, and what it may cost. */
    private static final long MOST = 8 * 6 * 9;
    private static final long LEAST = -MOST - 8 * 9;
    private static final long ORDERS = 720;
    private static final long PARTS = 100000000;

    /** The least and the most that a call answers, and what it answers beside. */
    private record Range(long least, long most, List<Long> beside) {
        boolean has(long answer) {
            return answer >= least && answer <= most || beside.contains(answer);
        }
    }

    private static final Map<String, Range> RANGES = Map.ofEntries(
        range("write", 1, 48, -2, -4), range("wipe", 0, 48), range("fault", 0, 48, -99), range("street", 0, 86, -3),
        range("smell", 0, 9 + 7 * 8, -2), range("wind", -1, 1, -99), range("nose", 0, 9, -1, -2),
        range("pennies", LEAST, MOST), range("hour", 0, 63, -3), range("chimney", 0, 1, -2, -3),
        range("undo", 0, 13, -3), range("by", LEAST, MOST, -1000002), range("best", LEAST, 255),
        range("bestChimney", 0, 9, -99), range("share", -72 * ORDERS, 72 * ORDERS, -1000001),
        range("judge", 0, 7, -99, -2), range("had", 0, 63, -2), range("only", 0, 255, -99, -2),
        range("see", 1, 6, -1, -2, -4), range("unsee", 0, 6), range("when", 0, 256, -99, -2),
        range("mean", LEAST * PARTS, MOST * PARTS, -1000000000002L),
        range("fair", -72 * PARTS, 72 * PARTS, -1000000000001L, -1000000000002L),
        range("bakers", 0, 99, -99, -2), range("seed", Long.MIN_VALUE, Long.MAX_VALUE),
        range("mornings", 20 * LEAST, 20 * MOST, -1000002), range("keep", 0, 8, -1), range("again", 0, 8, -1, -3),
        range("count", 0, 1023, -2));

    public static void main(String[] args) throws IllegalAccessException {
        Method[] face = Arrays.stream(MorningBill.class.getDeclaredMethods())
            .filter(method -> Modifier.isPublic(method.getModifiers()))
            .sorted(Comparator.comparing(Method::getName)).toArray(Method[]::new);
        for (int number = 0; number < OBJECTS && DUE.wrongSoFar() < 20; number++) {
            runWild(number, face);
        }
        DUE.end();
    }

    private static Map.Entry<String, Range> range(String name, long least, long most, long... beside) {
        return Map.entry(name, new Range(least, most, Arrays.stream(beside).boxed().toList()));
    }

    private static void runWild(int number, Method[] face) throws IllegalAccessException {
        Random chance = new Random(number);
        MorningBill bill = new MorningBill();
        int done = 0;
        while (done < CALLS) {
            if (chance.nextInt(60) == 0) {
                String street = chance.nextInt(3) == 0 ? Scene.STREET : Scene.smallStreet(chance.nextInt());
                Due.write(bill, street);
                bill.street();
                done += street.length() + 2;
            }
            Method method = face[chance.nextInt(face.length)];
            call(bill, method, argumentsOf(method, chance));
            done++;
        }
    }

    private static Object[] argumentsOf(Method method, Random chance) {
        Class<?>[] types = method.getParameterTypes();
        Object[] all = new Object[types.length];
        for (int at = 0; at < types.length; at++) {
            if (types[at] == boolean.class) {
                all[at] = chance.nextBoolean();
            } else if (types[at] == long.class) {
                all[at] = chance.nextLong();
            } else {
                all[at] = number(chance);
            }
        }
        return all;
    }

    private static int number(Random chance) {
        if (chance.nextInt(3) > 0) {
            return chance.nextInt(8);
        }
        return chance.nextInt(4) == 0 ? chance.nextInt() : NUMBERS[chance.nextInt(NUMBERS.length)];
    }

    private static void call(MorningBill bill, Method method, Object[] arguments) throws IllegalAccessException {
        String told = method.getName() + Arrays.toString(arguments);
        try {
            long answer = ((Number) method.invoke(bill, arguments)).longValue();
            DUE.holds(told + " answered " + answer + ": it can be that", RANGES.get(method.getName()).has(answer));
        } catch (InvocationTargetException thrown) {
            DUE.holds(told + " threw " + thrown.getCause(), false);
        }
    }
}
