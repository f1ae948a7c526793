/**
 * What takes away wires, shapes, the tree of the clock and the chain for tests, call by call, and what leaves them: a
 * call that is refused leaves all.
 */
public final class GoneTest {
    private static int wrong;

    private GoneTest() {
    }

    public static void main(String[] args) {
        for (String call : TAKE_ALL.split("\n")) {
            checkBoth(call, ALL_GONE);
        }
        for (String call : TAKE_WIRES.split("\n")) {
            checkBoth(call, WIRES_GONE);
        }
        for (String call : TAKE_SHAPES.split("\n")) {
            checkBoth(call, SHAPES_GONE);
        }
        check("detail 2 = 0", TREE_AND_CHAIN + "routed 0 = 2\nshapes = 6\nbreaches s = 0\n");
        for (String call : LEAVE_ALL.split("\n")) {
            check(call, ALL_THERE);
        }
        System.out.println(wrong == 0 ? "all calls take away what they should" : wrong + " wrong answers");
        if (wrong > 0) {
            System.exit(1);
        }
    }

    private static void check(String call, String after) {
        wrong += Script.run(call.strip() + " and then", DRAWN + BY_HAND + call + "\n" + after);
    }

    /** Also without shapes by hand, when what is drawn connects as the net says. */
    private static void checkBoth(String call, String after) {
        check(call, after);
        wrong += Script.run(call.strip() + " and then, all laid", DRAWN + call + "\n" + after);
    }

    /** Two flip-flops, buffers, one of them spare, with wires, shapes, a tree and a chain. */
    private static final String DRAWN = """
            addKind f 2 4 2 20 12
            addKind b 1 8 1 5 4
            addKind b 1 8 1 4 4
            addInput 0
            addCell 0
            addCell 0
            addCell 1
            addCell 1
            addCell 1
            connect 0 0 2
            connect 1 0 1
            connect 2 0 0
            connect 3 0 1
            addOutput 3 1
            place 0 4 1 false
            place 1 10 1 true
            place 2 2 0 false
            place 3 20 3 false
            place 4 20 5 false
            wish 3 9 2
            tree = 6
            scan = 6
            route = 0
            detail 1 = 0
            isAsDrawn = true
            """;

    private static final String BY_HAND = """
            addShape 0 5 0 0 4 2 = 6
            addShape 0 5 1 0 4 4 = 7
            coupling 2 4 = 4
            isAsDrawn = true
            """;

    private static final String NO_SHAPES = """
            # nothing that was drawn is there, so nothing of it is wrong
            isSound = true
            isAsDrawn = false
            coupling 2 4 = 0
            breaches s = 0
            shapes = 0
            shapeAt 0 l = IndexOutOfBoundsException
            removeShape 0 = IndexOutOfBoundsException
            """;

    private static final String NO_WIRES = """
            routed 0 = UnsupportedOperationException
            reroute 1 = UnsupportedOperationException
            detail 1 = UnsupportedOperationException
            usage 1 0 true = 0
            usage 0 0 true = 0
            """;

    private static final String TREE_AND_CHAIN = """
            latency 0 = 3
            common 0 0 = 3
            scanAt 0 = 0
            scanAt 1 = 1
            """;

    private static final String NO_TREE_AND_CHAIN = """
            latency 0 = 0
            common 0 0 = 0
            scanAt 0 = NoSuchElementException
            lockups = 0
            """;

    private static final String ALL_GONE = NO_SHAPES + NO_WIRES + NO_TREE_AND_CHAIN;

    private static final String WIRES_GONE = NO_SHAPES + NO_WIRES + TREE_AND_CHAIN;

    private static final String SHAPES_GONE = NO_SHAPES + TREE_AND_CHAIN + "routed 0 = 2\nusage 1 0 true = 1\n";

    private static final String ALL_THERE = TREE_AND_CHAIN + """
            routed 0 = 2
            usage 1 0 true = 1
            shapes = 8
            coupling 2 4 = 4
            """;

    private static final String TAKE_ALL = """
            addCell 1 = 5
            addInput 5 = 6
            addOutput 3 0 = 1
            connect 2 0 0 = 0
            connect 0 0 0 = 2
            change 3 4 = 0
            buffer 2 1 0 5 = 77
            place 3 20 3 false = 92
            place 3 0 4 true = 92
            legalize 2 = 0
            improve = 1
            """;

    private static final String TAKE_WIRES = """
            setCapacity 4 3 = 43
            setCapacity 9 9 = 43
            """;

    private static final String TAKE_SHAPES = """
            route = 0
            reroute 1 = 0
            """;

    private static final String LEAVE_ALL = """
            addKind b 1 1 1 1 1 = 3
            addCell 3 = IndexOutOfBoundsException
            addInput 6 = IllegalArgumentException
            addOutput 9 0 = IndexOutOfBoundsException
            netOf 3 = 4
            connect 0 0 9 = IndexOutOfBoundsException
            connect 2 0 3 = UnsupportedOperationException
            setKind 3 2 = 1
            setKind 3 0 = UnsupportedOperationException
            value 3 1 1 = 1
            block 20 3 1 0 = 1
            block 1 0 4 3 = 8
            place 3 23 6 false = IllegalArgumentException
            place 3 4 1 false = UnsupportedOperationException
            placeOf 3 = 92
            wish 3 1 1 = 57
            legalize 4 = 0
            legalize 6 = IllegalArgumentException
            length 0 = 2
            setPeriod 50 = 100
            setFalse 3 true = false
            setFalse 0 true = false
            setCycles 0 2 = 1
            setDerate 10 = 0
            late 3 1 = 7
            early 3 1 = 7
            worst 1 = 80
            buffer 2 1 23 6 = IllegalArgumentException
            buffer 2 0 0 5 = UnsupportedOperationException
            save = 52
            setSkew 0 0 = 0
            reroute 0 = IllegalArgumentException
            setCapacity 0 1 = IllegalArgumentException
            setRules 2 3 40 50 = 1
            breaches s = 0
            isSpare 4 = true
            setDomain 3 1 = 0
            tree = 6
            scan = 6
            change 3 3 = UnsupportedOperationException
            opens = 0
            fill = 0.048611112
            isSound = true
            """;
}
