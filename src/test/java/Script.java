import java.lang.reflect.Method;
import java.util.ArrayList;
import java.util.List;

/**
 * Runs a text with a call in each line, "name arguments = answer", on a new chip; "new" makes another one, and "#"
 * begins a remark. A line without an answer is a call that must not be refused. An answer that ends with "Exception"
 * means that the call throws it and changes nothing, also nothing of what is seen only by changing more.
 */
final class Script {
    private final String title;
    private final List<Object[]> made = new ArrayList<>();
    private CellrowWorks chip = new CellrowWorks();
    private int wrong;

    private Script(String title) {
        this.title = title;
    }

    /** Runs texts, each behind its title, and ends with the exit code 1 if an answer is not the one that is due. */
    static void runAll(String... titlesAndTexts) {
        int wrong = 0;
        for (int i = 0; i + 1 < titlesAndTexts.length; i += 2) {
            wrong += run(titlesAndTexts[i], titlesAndTexts[i + 1]);
        }
        System.out.println(wrong == 0 ? titlesAndTexts.length / 2 + " texts answer as is due" : wrong + " wrong answers");
        if (wrong > 0) {
            System.exit(1);
        }
    }

    /** Runs a text and returns how many answers were not the ones that are due. */
    static int run(String title, String text) {
        Script script = new Script(title);
        for (String line : text.split("\n")) {
            script.runLine(line.replaceAll("#.*", "").strip());
        }
        return script.wrong;
    }

    private void runLine(String line) {
        if (line.isEmpty()) {
            return;
        }
        if (line.equals("new")) {
            chip = new CellrowWorks();
            made.clear();
            return;
        }
        String[] sides = line.split(" = ");
        String[] words = sides[0].split(" +");
        Object[] args = arguments(words);
        String due = sides.length > 1 ? sides[1] : "any";
        boolean isRefused = due.endsWith("Exception");
        String look = isRefused ? Calls.look(chip) : "";
        String probe = isRefused ? Probe.of(again()) : "";
        String answer = Calls.answer(chip, words[0], args);
        made.add(new Object[] {words[0], args});
        if (due.equals("any") ? answer.startsWith("throws") : !answer.equals(isRefused ? "throws " + due : due)) {
            report(line, answer);
        } else if (isRefused && (!look.equals(Calls.look(chip)) || !probe.equals(Probe.of(again())))) {
            report(line, "that, and changed something");
        }
    }

    /** Another chip with which the same calls were made. */
    private CellrowWorks again() {
        CellrowWorks other = new CellrowWorks();
        for (Object[] call : made) {
            Calls.answer(other, (String) call[0], (Object[]) call[1]);
        }
        return other;
    }

    private void report(String line, String answer) {
        wrong++;
        System.out.println(title + ": " + line + ", but the answer was " + answer);
    }

    private static Object[] arguments(String[] words) {
        Class<?>[] types = typesOf(words[0]);
        Object[] args = new Object[words.length - 1];
        if (types.length != args.length) {
            throw new IllegalStateException("how many arguments? " + String.join(" ", words));
        }
        for (int i = 0; i < args.length; i++) {
            String word = words[i + 1];
            if (types[i] == char.class) {
                args[i] = word.charAt(0);
            } else if (types[i] == boolean.class) {
                args[i] = Boolean.valueOf(word);
            } else {
                args[i] = Integer.valueOf(word);
            }
        }
        return args;
    }

    private static Class<?>[] typesOf(String name) {
        for (Method method : CellrowWorks.class.getMethods()) {
            if (method.getName().equals(name)) {
                return method.getParameterTypes();
            }
        }
        throw new IllegalStateException("no method " + name);
    }
}
