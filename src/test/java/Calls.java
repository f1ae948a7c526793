import java.lang.reflect.InvocationTargetException;
import java.lang.reflect.Method;
import java.lang.reflect.Modifier;
import java.util.Arrays;
import java.util.HashMap;
import java.util.Map;

/** Calls methods by their names, and tells answers and exceptions as texts. */
final class Calls {
    private static final Map<Class<?>, Map<String, Method>> METHODS = new HashMap<>();

    private Calls() {
    }

    private static Method method(Class<?> type, String name) {
        Map<String, Method> known = METHODS.computeIfAbsent(type, t -> {
            Map<String, Method> all = new HashMap<>();
            for (Method m : t.getDeclaredMethods()) {
                if (!Modifier.isPrivate(m.getModifiers()) && !Modifier.isStatic(m.getModifiers())) {
                    m.setAccessible(true);
                    all.put(m.getName(), m);
                }
            }
            return all;
        });
        Method m = known.get(name);
        if (m == null) {
            throw new IllegalStateException("no method " + name + " in " + type);
        }
        return m;
    }

    static String answer(Object chip, String name, Object... args) {
        try {
            return String.valueOf(method(chip.getClass(), name).invoke(chip, args));
        } catch (InvocationTargetException e) {
            return "throws " + e.getCause().getClass().getSimpleName();
        } catch (IllegalAccessException e) {
            throw new IllegalStateException(e);
        }
    }

    static String told(String name, Object... args) {
        String list = Arrays.toString(args);
        return name + "(" + list.substring(1, list.length() - 1) + ")";
    }

    /** All that can be asked of a chip without changing it. */
    static String look(Object chip) {
        StringBuilder all = new StringBuilder();
        for (String name : new String[] {"cellCount", "netCount", "checksum", "allLength", "shapes", "breachesAnew",
            "lockups", "opens", "shorts", "isAsDrawn", "leakage", "fill", "meanLength", "isSound"}) {
            all.append(name).append(' ').append(answer(chip, name)).append('\n');
        }
        for (char rule : "sadtl".toCharArray()) {
            add(all, chip, "breaches", rule);
        }
        for (int corner = 0; corner < 3; corner++) {
            add(all, chip, "worst", corner);
        }
        lookAtCells(all, chip);
        lookAtNets(all, chip);
        for (int i = 0; i < Integer.parseInt(answer(chip, "shapes")); i++) {
            for (char what : "litaznm".toCharArray()) {
                add(all, chip, "shapeAt", i, what);
            }
        }
        for (int i = 0; i < 6; i++) {
            add(all, chip, "slackOut", i, 1);
        }
        for (int x = 0; x < 24; x++) {
            for (int row = 0; row < 6; row++) {
                add(all, chip, "usage", x, row, true);
                add(all, chip, "usage", x, row, false);
            }
        }
        return all.toString();
    }

    private static void lookAtCells(StringBuilder all, Object chip) {
        int cells = Integer.parseInt(answer(chip, "cellCount"));
        for (int c = 0; c < cells; c++) {
            for (String name : new String[] {"netOf", "placeOf", "latency", "drop", "isSpare", "scanAt"}) {
                add(all, chip, name, c);
            }
            for (int corner = 0; corner < 3; corner++) {
                add(all, chip, "slack", c, corner, false);
                add(all, chip, "slack", c, corner, true);
            }
            for (int o = 0; o < cells; o++) {
                add(all, chip, "common", c, o);
            }
        }
    }

    private static void lookAtNets(StringBuilder all, Object chip) {
        int nets = Integer.parseInt(answer(chip, "netCount"));
        for (int n = 0; n < nets; n++) {
            for (String name : new String[] {"length", "routed", "delta"}) {
                add(all, chip, name, n);
            }
            for (int corner = 0; corner < 3; corner++) {
                add(all, chip, "late", n, corner);
                add(all, chip, "early", n, corner);
            }
            for (int in : new int[] {0, 63, 0x15555, 0x2aaaa}) {
                add(all, chip, "value", n, in, in * 5);
            }
            for (int o = 0; o < nets; o++) {
                add(all, chip, "coupling", n, o);
            }
        }
    }

    private static void add(StringBuilder all, Object chip, String name, Object... args) {
        all.append(told(name, args)).append(' ').append(answer(chip, name, args)).append('\n');
    }
}
