import java.lang.reflect.InvocationTargetException;
import java.lang.reflect.Method;
import java.lang.reflect.Modifier;
import java.util.Arrays;
import java.util.Comparator;
import java.util.Random;

/** Each call of the face with any numbers, the farthest too: none throws, and each answers as PlainModel does. */
public final class AnyCallTest {
    private static final int RUNS = Integer.getInteger("runs", 300);
    private static final int CALLS = 512;
    private static final long[] FAR = {
        Integer.MIN_VALUE, Integer.MIN_VALUE + 1, -65536, -256, -129, -128, -65, -64, -33, -32, -31,
        24, 25, 30, 31, 32, 33, 60, 61, 62, 63, 64, 65, 127, 128, 255, 256, 1400, 65535, 65536, 357913942, 1 << 30,
        1999999999, 2000000000, 2000000001, Integer.MAX_VALUE - 63, Integer.MAX_VALUE - 1, Integer.MAX_VALUE,
    };
    private static final String[] TEXTS = {
        "",
        "hill syllables 2 places 1 hours 1;",
        "hill syllables 9 places 4 hours 24;name 8 8 8 8 8 8;name 0;name 8;name 8 8;name 1 2 3;name 4 5;"
            + "says 0 0 5 at 23;says 1 1 0 at 0;says 2 2 0 at 5;says 5 4 1 at 5;"
            + "knows 5 4 1;foe 5 4;foe 1 0;deaf 1 100;",
        "hill syllables 2 places 2 hours 3;name 0 1;name 1;name 0 1 1;stammers 1 2;deaf 0 50;deaf 2 7;goes 2 1 at 1;"
            + "knows 2 0 1;knows 1 0 0;knows 0 2 2;foe 2 0;foe 0 1;says 0 0 0 at 0;says 0 0 1 at 1;says 1 1 0 at 2;"
            + "says 2 2 0 at 0;says 1 0 1 at 2;says 2 2 1 at 1;",
        "hill syllables 3 places 1 hours 2;name 0;name 1;"
            + "says 0 1 0 at 0;says 1 1 0 at 0;says 1 0 0 at 1;".repeat(4),
        "hill syllables 2 places 1 hours 2;name 0 0;name 0 1;name 1 0;name 1 1;name 0;name 1;"
            + "knows 0 1 0;knows 0 1 1;knows 1 2 0;knows 1 2 1;knows 2 0 0;knows 2 0 1;knows 3 4 0;knows 4 5 0;",
    };

    private final Random random;
    private final HalvedNames names = new HalvedNames();
    private final PlainModel model = new PlainModel();
    private final StringBuilder log = new StringBuilder();
    private int wrong;

    private AnyCallTest(long seed) {
        random = new Random(seed);
    }

    public static void main(String[] args) throws ReflectiveOperationException {
        Method[] face = Arrays.stream(HalvedNames.class.getDeclaredMethods())
            .filter(m -> Modifier.isPublic(m.getModifiers()))
            .sorted(Comparator.comparing(Method::getName))
            .toArray(Method[]::new);
        int wrong = 0;
        long first = Long.getLong("seed", 1);
        for (long seed = first; seed < first + RUNS && wrong < 5; seed++) {
            AnyCallTest test = new AnyCallTest(seed);
            test.run(face);
            if (test.wrong > 0) {
                wrong++;
                System.out.println("seed " + seed + ":\n" + test.log);
            }
        }
        System.out.println("AnyCallTest: " + face.length + " calls, "
            + (wrong == 0 ? RUNS + " runs agree" : wrong + " runs differ"));
        if (wrong > 0 || face.length != 65) {
            System.exit(1);
        }
    }

    private void run(Method[] face) throws ReflectiveOperationException {
        int made = 0;
        while (made < CALLS && wrong == 0) {
            if (made % 64 == 0) {
                made += readText();
            }
            call(face[random.nextInt(face.length)]);
            made++;
        }
    }

    private int readText() {
        String text = TEXTS[random.nextInt(TEXTS.length)];
        log.append(text).append('\n');
        int[] v = Feeder.numbers(text);
        names.end(0);
        model.end(0);
        for (int i = 0; i < v.length; i += 5) {
            names.feed(v[i], v[i + 1], v[i + 2], v[i + 3], v[i + 4]);
            model.feed(v[i], v[i + 1], v[i + 2], v[i + 3], v[i + 4]);
        }
        check("hill of the text", names.hill(), model.hill());
        check("its fault", names.fault(0), 0);
        return 3 + v.length / 5;
    }

    private void call(Method asked) throws ReflectiveOperationException {
        Class<?>[] types = asked.getParameterTypes();
        Object[] numbers = new Object[types.length];
        int far = random.nextInt(3 * types.length + 1);
        for (int i = 0; i < types.length; i++) {
            long v = i == far ? FAR[random.nextInt(FAR.length)] : small();
            if (types[i] == long.class) {
                numbers[i] = i == far ? v << random.nextInt(33) : v;
            } else {
                numbers[i] = (int) v;
            }
        }
        String call = asked.getName() + Arrays.toString(numbers);
        if (isSlow(asked.getName(), numbers)) {
            return;
        }
        Object got;
        try {
            got = asked.invoke(names, numbers);
        } catch (InvocationTargetException e) {
            wrong++;
            log.append(call).append(" threw ").append(e.getCause()).append('\n');
            return;
        }
        Object want = PlainModel.class.getDeclaredMethod(asked.getName(), types).invoke(model, numbers);
        check(call, ((Number) got).longValue(), ((Number) want).longValue());
    }

    /** What PlainModel would try too long. */
    private static boolean isSlow(String name, Object[] numbers) {
        boolean isOfNames = name.equals("free") || name.equals("give") || name.equals("given");
        int n = isOfNames ? (Integer) numbers[0] : name.equals("spellings") ? (Integer) numbers[1] : 0;
        return n > (name.startsWith("give") ? 3 : 4) && n <= 6;
    }

    private int small() {
        return random.nextInt(10) == 0 ? random.nextInt(16) - 4 : random.nextInt(random.nextInt(3) == 0 ? 7 : 3);
    }

    private void check(String call, long got, long want) {
        log.append(call).append(" -> ").append(want);
        if (got != want) {
            wrong++;
            log.append(" but answered ").append(got);
        }
        log.append('\n');
    }
}
