import java.lang.reflect.InvocationTargetException;
import java.lang.reflect.Method;
import java.util.Arrays;
import java.util.HashMap;
import java.util.List;
import java.util.Map;
import java.util.Random;

/**
 * Long mixed runs of calls, right and wrong ones, on the class and on PlainArena: each answer must be
 * the same. The runs are always the same ones, by the seed.
 */
public final class ModelTest {
    private static final int RUNS = 3000;
    private static final int CALLS = 512;
    private static final String[] KINDS = {
        "stroke", "clear", "sign", "buy", "rise", "style", "learn", "pass", "duel", "hand",
        "look", "appeal", "prompt", "mark", "part", "marked", "of", "paper", "won",
    };
    /** How often each kind comes, by the sort of run. */
    private static final int[][] OFTEN = {
        {30, 1, 5, 4, 3, 5, 4, 4, 5, 20, 8, 4, 2, 4, 5, 8, 8, 2, 4},
        {40, 0, 2, 3, 1, 2, 2, 1, 3, 40, 6, 6, 1, 1, 1, 5, 8, 1, 4},
        {30, 4, 8, 10, 8, 8, 6, 8, 3, 4, 2, 2, 2, 9, 9, 2, 2, 6, 2},
        {9, 1, 3, 30, 4, 2, 3, 40, 3, 6, 3, 2, 1, 1, 1, 3, 3, 6, 2},
        {25, 0, 1, 3, 2, 4, 3, 1, 5, 28, 10, 10, 1, 0, 0, 8, 12, 1, 6},
    };

    private final Random random = new Random(20261119L);
    private final int[] ended = new int[KINDS.length];
    private final int[] thrown = new int[KINDS.length];
    private final Map<String, Method> onRing = methodsOf(InkRing.class);
    private final Map<String, Method> onPlain = methodsOf(PlainArena.class);
    private InkRing ring;
    private PlainArena plain;

    private ModelTest() {
    }

    public static void main(String[] args) {
        Check check = new Check("ModelTest");
        ModelTest test = new ModelTest();
        for (int run = 0; run < RUNS; run++) {
            test.run(check, run);
        }
        for (int k = 0; k < KINDS.length; k++) {
            check.same(KINDS[k] + " was answered often", true, test.ended[k] > 1000);
            check.same(KINDS[k] + " threw often, if it can", true, test.thrown[k] > 300 || k == 1);
        }
        check.end();
    }

    private void run(Check check, int run) {
        ring = new InkRing();
        plain = new PlainArena();
        int[] often = OFTEN[run % OFTEN.length];
        for (int call = 0; call < CALLS; call++) {
            int kind = kind(often);
            int[] a = arguments(kind);
            String got = answer(ring, onRing.get(KINDS[kind]), a);
            String want = answer(plain, onPlain.get(KINDS[kind]), a);
            if (want.startsWith("throws.")) {
                thrown[kind]++;
            } else {
                ended[kind]++;
            }
            if (!want.equals(got)) {
                check.same("run " + run + ", call " + call + ", " + KINDS[kind] + Arrays.toString(a), want, got);
                return;
            }
        }
    }

    private int kind(int[] often) {
        int sum = 0;
        for (int each : often) {
            sum += each;
        }
        int at = random.nextInt(sum);
        int kind = 0;
        while (at >= often[kind]) {
            at -= often[kind];
            kind++;
        }
        return kind;
    }

    private int in(int least, int most) {
        int chance = random.nextInt(200);
        if (chance == 0) {
            return least - 1;
        }
        if (chance == 1) {
            return most + 1;
        }
        if (chance == 2) {
            return random.nextInt();
        }
        return most < least ? least : least + random.nextInt(most - least + 1);
    }

    private int oneOf(int count) {
        return in(0, count - 1);
    }

    private int[] arguments(int kind) {
        int duels = plain.duels.size();
        int signs = plain.signs.size();
        switch (KINDS[kind]) {
            case "stroke":
                return places();
            case "buy":
                return new int[] {oneOf(3), random.nextInt(5) == 0 ? in(1, 100) : in(1, 4)};
            case "rise":
                return new int[] {oneOf(3), in(-10, 10)};
            case "style":
                return new int[] {oneOf(4), in(0, 100), in(0, 100), in(0, 100)};
            case "learn":
                return new int[] {oneOf(4), oneOf(4)};
            case "pass":
                return new int[] {random.nextInt(3) == 0 ? in(1, 100) : in(1, 3)};
            case "duel":
                return new int[] {oneOf(8), oneOf(8), oneOf(4), oneOf(3), in(1, 5), in(0, 999)};
            case "hand":
                return handing(oneOf(duels));
            case "look":
            case "marked":
                return new int[] {oneOf(duels), oneOf(5), random.nextInt(2)};
            case "appeal":
                return new int[] {oneOf(duels), oneOf(4)};
            case "prompt":
                return new int[] {oneOf(duels), oneOf(5)};
            case "mark":
                return new int[] {oneOf(signs), oneOf(4)};
            case "part":
                return new int[] {oneOf(signs), oneOf(plain.draft.size()), oneOf(3)};
            case "of":
                return new int[] {oneOf(duels), oneOf(6)};
            case "paper":
                return new int[] {oneOf(3), oneOf(2)};
            case "won":
                return new int[] {oneOf(8)};
            default:
                return new int[0];
        }
    }

    /** Often near a stroke of a sign, for otherwise most marks would be 0. */
    private int[] places() {
        if (plain.signs.isEmpty() || random.nextInt(3) == 0) {
            return new int[] {in(0, 99), in(0, 99), in(0, 99), in(0, 99)};
        }
        List<int[]> sign = plain.signs.get(random.nextInt(plain.signs.size()));
        int[] near = sign.get(Math.min(plain.draft.size(), sign.size() - 1)).clone();
        for (int k = 0; k < near.length; k++) {
            near[k] = Math.max(0, Math.min(99, near[k] + random.nextInt(21) - 10));
        }
        return near;
    }

    private int[] handing(int duel) {
        if (duel < 0 || duel >= plain.duels.size() || random.nextInt(2) == 0) {
            return new int[] {duel, in(0, 999)};
        }
        return new int[] {duel, Arena.seal(plain.duels.get(duel).next(), plain.taken + 1)};
    }

    /** By name, for the class can't share an interface with the model. */
    private static Map<String, Method> methodsOf(Class<?> owner) {
        Map<String, Method> found = new HashMap<>();
        for (Method each : owner.getDeclaredMethods()) {
            if (List.of(KINDS).contains(each.getName())) {
                found.put(each.getName(), each);
            }
        }
        return found;
    }

    private static String answer(Object arena, Method method, int[] numbers) {
        Object[] arguments = new Object[numbers.length];
        for (int k = 0; k < numbers.length; k++) {
            boolean isChoice = method.getParameterTypes()[k] == boolean.class;
            arguments[k] = isChoice ? (Object) (numbers[k] == 1) : (Object) numbers[k];
        }
        return Check.answer(() -> {
            try {
                return method.invoke(arena, arguments);
            } catch (InvocationTargetException e) {
                throw (RuntimeException) e.getCause();
            } catch (IllegalAccessException e) {
                throw new AssertionError(e);
            }
        });
    }
}
