import java.util.ArrayList;
import java.util.List;
import java.util.Random;

/** Long runs of calls drawn from fixed seeds, each answer compared with the model's, and all that can be seen too. */
public final class RandomRunsTest {
    private static final String TYPES = "bbinoxlffd";
    private final CellrowWorks chip = new CellrowWorks();
    private final Model model = new Model();
    private final List<String> told = new ArrayList<>();
    private final Random random;
    private final int seed;
    private boolean isWrong;

    private RandomRunsTest(int seed) {
        this.seed = seed;
        this.random = new Random(seed);
    }

    public static void main(String[] args) {
        int from = args.length > 0 ? Integer.parseInt(args[0]) : 0;
        int runs = args.length > 1 ? Integer.parseInt(args[1]) : 120;
        for (int seed = from; seed < from + runs; seed++) {
            RandomRunsTest run = new RandomRunsTest(seed);
            run.go();
            if (run.isWrong) {
                System.exit(1);
            }
        }
        System.out.println(runs + " random runs answer as the model does");
    }

    private void go() {
        build();
        int calls = 60 + random.nextInt(300);
        for (int i = 0; i < calls && !isWrong; i++) {
            if (i % 40 == 0) {
                drawAll();
            }
            step(i % 40 < 25);
            if (i % 40 == 20 || i % 40 == 39) {
                compareLooks();
            }
        }
        compareLooks();
    }

    private void compareLooks() {
        String one = Calls.look(chip);
        String two = Calls.look(model);
        if (!one.equals(two) && !isWrong) {
            String[] a = one.split("\n");
            String[] b = two.split("\n");
            for (int i = 0; i < Math.min(a.length, b.length); i++) {
                if (!a[i].equals(b[i])) {
                    fail("look: " + a[i] + ", the model: " + b[i]);
                    return;
                }
            }
            fail("looks of unlike length");
        }
    }

    private void fail(String what) {
        isWrong = true;
        System.out.println("seed " + seed + ": " + what);
        for (String call : told.subList(Math.max(0, told.size() - 60), told.size())) {
            System.out.println("    " + call);
        }
    }

    private String call(String name, Object... args) {
        boolean isWatched = random.nextInt(10) == 0;
        String before = isWatched ? Calls.look(chip) : "";
        String one = Calls.answer(chip, name, args);
        told.add(Calls.told(name, args) + " -> " + one);
        String two = Calls.answer(model, name, args);
        if (!one.equals(two) && !isWrong) {
            fail(Calls.told(name, args) + " answers " + one + ", the model " + two);
        }
        if (isWatched && one.startsWith("throws") && !before.equals(Calls.look(chip))) {
            fail(Calls.told(name, args) + " throws and changes something");
        }
        return one;
    }

    private int upTo(int n) {
        return random.nextInt(n);
    }

    /** A number of something, now and then one that is not there. */
    private int some(int count) {
        return upTo(25) == 0 ? upTo(4) == 0 ? -1 : count + upTo(2) : upTo(Math.max(1, count));
    }

    private int kinds;
    private final StringBuilder types = new StringBuilder();

    private void build() {
        int wanted = 3 + upTo(8);
        for (int i = 0; i < wanted; i++) {
            addKind();
        }
        int cells = upTo(8) == 0 ? 18 : 2 + upTo(14);
        int inputs = upTo(4);
        for (int i = 0; i < cells + inputs; i++) {
            if (upTo(cells + inputs) < inputs) {
                call("addInput", upTo(6));
            } else {
                call("addCell", some(kinds));
            }
        }
        for (int i = 0; i < model.cellCount(); i++) {
            for (int in = 0; in < 2 && upTo(12) > 0; in++) {
                call("connect", i, in, upTo(Math.max(1, model.netCount())));
            }
        }
        for (int i = upTo(5); i > 0; i--) {
            call("addOutput", some(model.netCount()), upTo(6));
        }
        for (int i = 0; i < model.cellCount() && upTo(20) > 0; i++) {
            if (upTo(2) == 0) {
                call("wish", i, upTo(24), upTo(6));
            } else {
                call("place", i, upTo(21), upTo(upTo(3) + 1), upTo(3) == 0);
            }
        }
        for (int row = 0; row < 6; row++) {
            call("legalize", row);
        }
    }

    /** Makes wires, shapes, a tree and a chain, which the calls that follow then leave for a while. */
    private void drawAll() {
        for (int i = 0; i < model.cellCount(); i++) {
            for (int tries = 0; tries < 20 && Calls.answer(model, "placeOf", i).startsWith("throws"); tries++) {
                call("place", i, upTo(24), upTo(6), upTo(2) == 0);
            }
        }
        if (upTo(2) == 0) {
            call("setCapacity", 1 + upTo(4), 1 + upTo(4));
        }
        call("tree");
        call("scan");
        call("route");
        if (upTo(2) == 0) {
            call("reroute", 1 + upTo(9));
        }
        call("detail", 1 + upTo(4));
    }

    private int kindOfType(char type) {
        for (int tries = 0; tries < 20; tries++) {
            int kind = upTo(Math.max(1, kinds));
            if (kind < types.length() && types.charAt(kind) == type) {
                return kind;
            }
        }
        return some(kinds);
    }

    private void changeOne() {
        int cells = model.cellCount();
        for (int tries = 0; tries < 60; tries++) {
            int spare = upTo(Math.max(1, cells));
            int cell = upTo(Math.max(1, cells));
            if (spare < cells && cell < cells && model.isSpare(spare) && model.isLike(cell, spare)) {
                call("change", cell, spare);
                return;
            }
        }
        call("change", some(cells), some(cells));
    }

    private void addKind() {
        char type = upTo(30) == 0 ? 'q' : TYPES.charAt(upTo(TYPES.length()));
        String answer = call("addKind", type, some(3) + 1, 1 + upTo(9), 1 + upTo(upTo(9) + 1), upTo(100),
                upTo(upTo(100) + 1));
        if (!answer.startsWith("throws")) {
            kinds++;
            types.append(type);
        }
    }

    private void step(boolean isDrawn) {
        int kind = (isDrawn ? 20 : 0) + upTo(isDrawn ? 80 : 100);
        if (kind < 12) {
            changeNet();
        } else if (kind < 20) {
            changePlaces();
        } else if (kind < 40) {
            drawWires(isDrawn);
        } else if (kind < 70) {
            changeTimes();
        } else {
            ask();
        }
    }

    private void changeNet() {
        int cells = model.cellCount();
        int nets = model.netCount();
        switch (upTo(8)) {
            case 0 -> addKind();
            case 1 -> call("addCell", some(kinds));
            case 2 -> call("addInput", some(6));
            case 3 -> call("addOutput", some(nets), some(6));
            case 4 -> call("connect", some(cells), some(2), some(nets));
            case 5 -> changeOne();
            default -> call("buffer", some(nets), kindOfType('b'), some(24), some(6));
        }
    }

    private void changePlaces() {
        int cells = model.cellCount();
        switch (upTo(9)) {
            case 0 -> call("block", some(24), some(6), 1 + upTo(upTo(20) + 1), some(4));
            case 1, 2, 3 -> call("place", some(cells), some(24), some(6), upTo(2) == 0);
            case 4, 5, 6 -> call("wish", some(cells), some(24), some(6));
            case 7 -> call("legalize", some(6));
            default -> call("improve");
        }
    }

    private void drawWires(boolean isDrawn) {
        int nets = model.netCount();
        switch (isDrawn ? 5 + upTo(15) : upTo(20)) {
            case 0, 1 -> call("setCapacity", 1 + some(upTo(9) + 1), 1 + some(upTo(9) + 1));
            case 2, 3, 4 -> call("route");
            case 5 -> call("reroute", 1 + some(9));
            case 6 -> call("detail", 1 + some(4));
            case 7, 8, 9, 10, 11, 12, 13, 14, 15 -> {
                int from = upTo(23);
                call("addShape", 0, some(6), some(4), from, from + some(24 - from), some(nets));
            }
            case 16 -> call("addShape", 1, some(24), some(3), some(5), some(6), some(nets));
            case 17 -> call("addShape", some(2), some(6), some(2), some(23), some(23), some(nets));
            case 18 -> call("removeShape", some(model.shapes()));
            default -> call("setRules", 1 + some(9), upTo(30), upTo(101), 1 + some(upTo(99) + 1));
        }
    }

    private void changeTimes() {
        int cells = model.cellCount();
        switch (upTo(14)) {
            case 0 -> call("setPeriod", some(1000));
            case 1 -> call("setPeriod", some(150));
            case 2 -> call("setFalse", some(cells), upTo(4) == 0);
            case 3, 4 -> call("setCycles", some(cells), 1 + some(4));
            case 5 -> call("setDerate", some(51));
            case 6 -> call("save");
            case 7, 8 -> call("tree");
            case 9, 10 -> call("setSkew", some(cells), some(19) - 9);
            case 11 -> call("setDomain", some(cells), some(2));
            case 12 -> call("setKind", some(cells), some(kinds));
            default -> call("scan");
        }
    }

    private void ask() {
        int cells = model.cellCount();
        int nets = model.netCount();
        switch (upTo(16)) {
            case 0 -> call("worst", some(3));
            case 1 -> call("late", some(nets), some(3));
            case 2 -> call("early", some(nets), some(3));
            case 3 -> call("slack", some(cells), some(3), upTo(2) == 0);
            case 4 -> call("slackOut", some(6), some(3));
            case 5 -> call("value", some(nets), random.nextInt(), random.nextInt());
            case 6 -> call("breaches", "sadtlq".charAt(upTo(6)));
            case 7 -> call("shapeAt", some(model.shapes()), "litaznmq".charAt(upTo(8)));
            case 8 -> call("coupling", some(nets), some(nets));
            case 9 -> call("common", some(cells), some(cells));
            case 10 -> call("usage", some(24), some(6), upTo(2) == 0);
            case 11 -> call("scanAt", some(cells));
            case 12 -> call("routed", some(nets));
            case 13 -> call("delta", some(nets));
            case 14 -> call("drop", some(cells));
            default -> call("isSound");
        }
    }
}
