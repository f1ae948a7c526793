import java.io.IOException;
import java.lang.reflect.Method;
import java.lang.reflect.Modifier;
import java.nio.file.Files;
import java.nio.file.Path;
import java.util.ArrayList;
import java.util.List;
import java.util.stream.Stream;

/** The example of README.md, line by line, with the answers that are due; and whether the page names what it should. */
public final class ReadmeTest {
    private static final Path PAGE = Path.of("README.md");
    private static final Path TESTS = Path.of("src/test/java");
    private static final List<String> EXCEPTIONS = List.of("IndexOutOfBoundsException", "IllegalArgumentException",
            "UnsupportedOperationException", "IllegalStateException", "NoSuchElementException", "ArithmeticException");
    private static int wrong;

    private ReadmeTest() {
    }

    public static void main(String[] args) throws IOException {
        runExample();
        compareExample();
        checkNames();
        System.out.println(wrong == 0 ? "README.md tells what is so" : wrong + " faults in README.md");
        if (wrong > 0) {
            System.exit(1);
        }
    }

    private static void due(String what, Object got, Object want) {
        if (!got.equals(want)) {
            wrong++;
            System.out.println(what + " is " + got + ", due is " + want);
        }
    }

    private static void runExample() {
        CellrowWorks chip = new CellrowWorks();

        int inverter = chip.addKind('i', 1, 4, 2, 9, 5);
        int flop = chip.addKind('f', 2, 3, 2, 12, 6);
        due("kinds", inverter + " " + flop, "0 1");

        int in = chip.addInput(0);
        int gate = chip.addCell(inverter);
        int state = chip.addCell(flop);
        due("net and cells", in + " " + gate + " " + state, "0 0 1");

        chip.connect(gate, 0, in);
        chip.connect(state, 0, chip.netOf(gate));
        int out = chip.addOutput(chip.netOf(state), 0);
        due("the output", out, 0);

        chip.place(gate, 10, 0, false);
        chip.wish(state, 10, 0);
        int moved = chip.legalize(0);
        due("the moves", moved, 1);
        due("the place", chip.placeOf(state), 11);

        chip.setPeriod(60);
        chip.setDerate(10);
        int toSpare = chip.worst(1);
        // to the output: the load 2 + 11 / 2 = 7 makes 5 * 7 / 8 = 4 behind 6; to the flip-flop: 5 + 4 * 2 / 8, derated
        due("the time to spare", toSpare, Math.min(60 - (6 + 4), 60 - 2 - 6));

        int clockWires = chip.tree();
        int chainLength = chip.scan();
        int overFull = chip.route();
        int notLaid = chip.detail(1);
        due("tree, chain, wires and shapes", clockWires + " " + chainLength + " " + overFull + " " + notLaid, "0 0 0 0");
        due("the shapes", chip.shapes(), 3);

        int narrow = chip.breaches('s');
        boolean isDrawn = chip.isAsDrawn();
        boolean isSound = chip.isSound();
        due("what is drawn", narrow + " " + isDrawn + " " + isSound, "0 true true");
    }

    /** The lines of the page's example, but for remarks, stand in this file in the same order. */
    private static void compareExample() throws IOException {
        List<String> own = new ArrayList<>();
        for (String line : Files.readAllLines(TESTS.resolve("ReadmeTest.java"))) {
            own.add(line.strip());
        }
        String page = Files.readString(PAGE);
        int from = page.indexOf("```java");
        int to = page.indexOf("```", from + 3);
        due("an example on the page", from >= 0 && to > from, true);
        int at = 0;
        int lines = 0;
        for (String line : page.substring(Math.max(0, from + 7), Math.max(0, to)).split("\n")) {
            if (line.isBlank() || line.startsWith("//")) {
                continue;
            }
            int found = own.subList(at, own.size()).indexOf(line.strip());
            due("the line \"" + line + "\" in the test", found >= 0, true);
            at += found + 1;
            lines++;
        }
        due("an example of some twenty lines", lines >= 20, true);
    }

    private static void checkNames() throws IOException {
        String page = Files.readString(PAGE);
        for (String name : EXCEPTIONS) {
            due("`" + name + "` on the page", page.contains("`" + name + "`"), true);
        }
        for (Method method : CellrowWorks.class.getDeclaredMethods()) {
            String name = "`" + method.getName() + "`";
            due(name + " on the page", !Modifier.isPublic(method.getModifiers()) || page.contains(name), true);
        }
        try (Stream<Path> files = Files.list(TESTS)) {
            for (Path file : files.toList()) {
                String name = file.getFileName().toString().replace(".java", "");
                due("`" + name + "` on the page", name.equals("Calls") || page.contains("`" + name), true);
            }
        }
    }
}
