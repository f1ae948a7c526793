import java.lang.reflect.Method;

/**
 * Runs a text with a call in each line, "name arguments = answer", on a new chip; "new" makes another one, and "#"
 * begins a remark. An answer that ends with "Exception" means that the call throws it and changes nothing.
 */
final class Script {
    private final String title;
    private CellrowWorks chip = new CellrowWorks();
    private int wrong;

    private Script(String title) {
        this.title = title;
    }

    /** Runs texts, each behind its title, and ends with the exit code 1 if an answer is not the one that is due. */
    static void runAll(String... titlesAndTexts) {
        int wrong = 0;
        for (int i = 0; i + 1 < titlesAndTexts.length; i += 2) {
            Script script = new Script(titlesAndTexts[i]);
            for (String line : titlesAndTexts[i + 1].split("\n")) {
                script.runLine(line.replaceAll("#.*", "").strip());
            }
            wrong += script.wrong;
        }
        System.out.println(wrong == 0 ? titlesAndTexts.length / 2 + " texts answer as is due" : wrong + " wrong answers");
        if (wrong > 0) {
            System.exit(1);
        }
    }

    private void runLine(String line) {
        if (line.isEmpty()) {
            return;
        }
        if (line.equals("new")) {
            chip = new CellrowWorks();
            return;
        }
        String[] sides = line.split(" = ");
        String[] words = sides[0].split(" +");
        Object[] args = arguments(words);
        boolean isRefused = sides[1].endsWith("Exception");
        String before = isRefused ? Calls.look(chip) : "";
        String answer = Calls.answer(chip, words[0], args);
        String due = isRefused ? "throws " + sides[1] : sides[1];
        if (!answer.equals(due)) {
            report(line, answer);
        } else if (isRefused && !before.equals(Calls.look(chip))) {
            report(line, "that, and changed something");
        }
    }

    private void report(String line, String answer) {
        wrong++;
        System.out.println(title + ": " + line + ", but the answer was " + answer);
    }

    private static Object[] arguments(String[] words) {
        Class<?>[] types = typesOf(words[0]);
        Object[] args = new Object[words.length - 1];
        if (types.length != args.length) {
            throw new IllegalStateException("how many arguments? " + String.join(" ", words));
        }
        for (int i = 0; i < args.length; i++) {
            String word = words[i + 1];
            if (types[i] == char.class) {
                args[i] = word.charAt(0);
            } else if (types[i] == boolean.class) {
                args[i] = Boolean.valueOf(word);
            } else {
                args[i] = Integer.valueOf(word);
            }
        }
        return args;
    }

    private static Class<?>[] typesOf(String name) {
        for (Method method : CellrowWorks.class.getMethods()) {
            if (method.getName().equals(name)) {
                return method.getParameterTypes();
            }
        }
        throw new IllegalStateException("no method " + name);
    }
}
