import java.lang.reflect.InvocationTargetException;
import java.lang.reflect.Method;
import java.util.Arrays;
import java.util.Comparator;
import java.util.Random;

/** Calls with any numbers at all: what is thrown is what the call declares, and all stays sound. */
public final class WildCallsTest {
    private static final int[] NUMBERS = {Integer.MIN_VALUE, -1000000, -25, -2, -1, 0, 0, 1, 1, 2, 3, 4, 5, 6, 7, 9, 10,
        11, 12, 17, 18, 22, 23, 24, 25, 99, 100, 143, 144, 199, 200, 999, 1000, 65536, Integer.MAX_VALUE - 3,
        Integer.MAX_VALUE};
    private static final String SIGNS = "binoxlfdsatlizm?\u0000\uffff";

    private WildCallsTest() {
    }

    public static void main(String[] args) throws IllegalAccessException {
        Method[] face = CellrowWorks.class.getMethods();
        face = Arrays.stream(face).filter(m -> m.getDeclaringClass() == CellrowWorks.class).toArray(Method[]::new);
        Arrays.sort(face, Comparator.comparing(Method::getName));
        int answers = 0;
        for (int seed = 0; seed < 200; seed++) {
            Random random = new Random(seed);
            CellrowWorks chip = new CellrowWorks();
            for (int i = 0; i < 512; i++) {
                answers += call(chip, face[random.nextInt(face.length)], random, seed) ? 1 : 0;
                if (i < 30) {
                    Calls.answer(chip, "addKind", SIGNS.charAt(random.nextInt(8)), 1 + random.nextInt(4), 1 + i % 9, 3,
                            i, i);
                    Calls.answer(chip, "addCell", random.nextInt(1 + i / 2));
                }
            }
            if (!chip.isSound()) {
                System.out.println("seed " + seed + ": not sound");
                System.exit(1);
            }
        }
        System.out.println(answers + " of " + 200 * 512 + " wild calls were answered, the others refused as declared");
    }

    /** Whether the call was answered. */
    private static boolean call(CellrowWorks chip, Method method, Random random, int seed)
            throws IllegalAccessException {
        Class<?>[] types = method.getParameterTypes();
        Object[] args = new Object[types.length];
        boolean isSmall = random.nextInt(3) > 0;
        for (int i = 0; i < args.length; i++) {
            if (types[i] == boolean.class) {
                args[i] = random.nextBoolean();
            } else if (types[i] == char.class) {
                args[i] = SIGNS.charAt(random.nextInt(SIGNS.length()));
            } else {
                args[i] = isSmall ? random.nextInt(7) : NUMBERS[random.nextInt(NUMBERS.length)];
            }
        }
        try {
            method.invoke(chip, args);
            return true;
        } catch (InvocationTargetException e) {
            if (!Arrays.asList(method.getExceptionTypes()).contains(e.getCause().getClass())
                    || !e.getCause().getStackTrace()[0].getClassName().equals("CellrowWorks")) {
                System.out.println("seed " + seed + ": " + Calls.told(method.getName(), args) + " threw " + e.getCause());
                e.getCause().printStackTrace(System.out);
                System.exit(1);
            }
            return false;
        }
    }
}
