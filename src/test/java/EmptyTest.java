/** What is answered as long as there is nothing: no kinds, cells, nets, places, wires, shapes, flip-flops, and so on. */
public final class EmptyTest {
    private EmptyTest() {
    }

    public static void main(String[] args) {
        Script.runAll("1 a new object, cells and nets", NEW_NET, "1 a new object, places", NEW_PLACES,
                "1 a new object, times", NEW_TIMES, "1 a new object, clock and wires", NEW_WIRES,
                "1 a new object, shapes and rules", NEW_SHAPES, "1 a new object, power and tests", NEW_TESTS,
                "1 a new object, figures", NEW_FIGURES, "2 no kinds but one", ONE_KIND, "3 no cells", NO_CELLS,
                "61 no nets", NO_NETS, "5 no outputs", NO_OUTPUTS, "6 no net that it drives", NO_NET_OF,
                "7 not connected inputs have the net -1", NOT_CONNECTED, "9 inputs without a net are 0", NO_VALUE,
                "12 no place", NO_PLACE, "13 no wish", NO_WISH, "14 no cell that should be in the row", NO_QUEUE,
                "15 nothing to exchange", NO_PAIR, "16 no pins with a place", NO_PINS, "22 no path", NO_PATH,
                "24 no path that counts", NO_PATH_THAT_COUNTS, "26 no end of paths", NO_END,
                "28 no sinks", NO_SINKS, "29 no kind that leaks less", NO_LESS, "30 no flip-flops", NO_FLOPS,
                "31 no tree", NO_TREE, "35 nothing to join", NO_WIRES, "36 nothing routed", NOT_ROUTED,
                "36 nothing over full", NONE_OVER_FULL, "40 no shapes", NO_SHAPES, "48 nothing beside", NONE_BESIDE,
                "52 no chain", NO_CHAIN, "54 no spare cell", NO_SPARE, "56 no two places", NO_TWO_PLACES);
    }

    private static final String NEW_NET = """
            addCell 0 = IndexOutOfBoundsException
            addOutput 0 0 = IndexOutOfBoundsException
            netOf 0 = IndexOutOfBoundsException
            connect 0 0 0 = IndexOutOfBoundsException
            setKind 0 0 = IndexOutOfBoundsException
            value 0 0 0 = IndexOutOfBoundsException
            addKind b 1 1 1 1 1 = 0
            addCell 0 = 0
            new
            addInput 0 = 0
            """;

    private static final String NEW_PLACES = """
            place 0 0 0 false = IndexOutOfBoundsException
            placeOf 0 = IndexOutOfBoundsException
            wish 0 0 0 = IndexOutOfBoundsException
            length 0 = IndexOutOfBoundsException
            legalize 0 = 0
            legalize 5 = 0
            improve = 0
            allLength = 0
            # nothing is blocked
            block 0 0 1 0 = 1
            block 23 5 1 0 = 1
            """;

    private static final String NEW_TIMES = """
            setFalse 0 true = IndexOutOfBoundsException
            setCycles 0 1 = IndexOutOfBoundsException
            late 0 1 = IndexOutOfBoundsException
            early 0 1 = IndexOutOfBoundsException
            slack 0 1 true = IndexOutOfBoundsException
            slackOut 0 1 = IndexOutOfBoundsException
            buffer 0 0 0 0 = IndexOutOfBoundsException
            worst 0 = 9999
            worst 1 = 9999
            worst 2 = 9999
            worstAnew 0 = 9999
            worstAnew 1 = 9999
            worstAnew 2 = 9999
            save = 0
            setPeriod 7 = 100
            setDerate 7 = 0
            """;

    private static final String NEW_WIRES = """
            latency 0 = IndexOutOfBoundsException
            common 0 0 = IndexOutOfBoundsException
            setSkew 0 0 = IndexOutOfBoundsException
            routed 0 = IndexOutOfBoundsException
            reroute 1 = UnsupportedOperationException
            detail 1 = UnsupportedOperationException
            usage 0 0 true = 0
            usage 0 0 false = 0
            tree = 0
            route = 0
            reroute 9 = 0
            detail 4 = 0
            shapes = 0
            setCapacity 9 9 = 43
            reroute 1 = UnsupportedOperationException
            """;

    private static final String NEW_SHAPES = """
            shapeAt 0 l = IndexOutOfBoundsException
            addShape 0 0 0 0 1 0 = IndexOutOfBoundsException
            removeShape 0 = IndexOutOfBoundsException
            shapes = 0
            breaches s = 0
            breaches a = 0
            breaches d = 0
            breaches t = 0
            breaches l = 0
            breachesAnew = 0
            # three windows of which nothing is filled
            setRules 9 1 100 1 = 1
            breaches d = 3
            breaches a = 0
            breaches t = 0
            """;

    private static final String NEW_TESTS = """
            coupling 0 0 = IndexOutOfBoundsException
            delta 0 = IndexOutOfBoundsException
            drop 0 = IndexOutOfBoundsException
            setDomain 0 0 = IndexOutOfBoundsException
            change 0 0 = IndexOutOfBoundsException
            isSpare 0 = IndexOutOfBoundsException
            scanAt 0 = NoSuchElementException
            lockups = 0
            scan = 0
            scanAt 0 = NoSuchElementException
            lockups = 0
            opens = 0
            shorts = 0
            """;

    private static final String NEW_FIGURES = """
            isAsDrawn = true
            leakage = 0
            cellCount = 0
            netCount = 0
            checksum = 5
            fill = 0.0
            meanLength = ArithmeticException
            isSound = true
            """;

    private static final String ONE_KIND = """
            addKind b 1 1 1 1 1 = 0
            addCell 1 = IndexOutOfBoundsException
            cellCount = 0
            leakage = 0
            save = 0
            buffer 0 0 0 0 = IndexOutOfBoundsException
            setKind 0 0 = IndexOutOfBoundsException
            """;

    private static final String NO_CELLS = """
            addKind b 1 1 1 1 1 = 0
            addInput 2 = 0
            addOutput 0 4 = 0
            netOf 0 = IndexOutOfBoundsException
            connect 0 0 0 = IndexOutOfBoundsException
            value 0 1 0 = 1
            late 0 1 = 0
            early 0 1 = 0
            slackOut 0 1 = 100
            worst 1 = 100
            worstAnew 1 = 100
            tree = 0
            scan = 0
            route = 0
            routed 0 = 25
            detail 1 = 0
            shapes = 2
            isAsDrawn = true
            leakage = 0
            fill = 0.0
            meanLength = 25.0
            improve = 0
            breaches l = 0
            breaches t = 0
            isSound = true
            """;

    private static final String NO_NETS = """
            addKind d 1 1 1 1 1 = 0
            addCell 0 = 0
            place 0 0 0 false = -1
            netCount = 0
            addOutput 0 0 = IndexOutOfBoundsException
            connect 0 0 0 = IndexOutOfBoundsException
            length 0 = IndexOutOfBoundsException
            late 0 1 = IndexOutOfBoundsException
            early 0 1 = IndexOutOfBoundsException
            addShape 0 0 0 0 1 0 = IndexOutOfBoundsException
            meanLength = ArithmeticException
            route = 0
            routed 0 = IndexOutOfBoundsException
            detail 1 = 0
            opens = 0
            allLength = 0
            isSpare 0 = true
            isSound = true
            """;

    private static final String NO_OUTPUTS = """
            addInput 0 = 0
            slackOut 0 1 = IndexOutOfBoundsException
            worst 1 = 9999
            worstAnew 1 = 9999
            addOutput 0 0 = 0
            slackOut 0 1 = 100
            worst 1 = 100
            """;

    private static final String NO_NET_OF = """
            addKind d 1 1 1 1 1 = 0
            addCell 0 = 0
            netOf 0 = NoSuchElementException
            netOf 1 = IndexOutOfBoundsException
            """;

    private static final String NOT_CONNECTED = """
            addKind n 1 1 1 1 1 = 0
            addKind d 1 1 1 1 1 = 1
            addKind f 1 1 1 1 1 = 2
            addInput 0 = 0
            addCell 0 = 0
            addCell 1 = 1
            addCell 2 = 2
            connect 0 0 0 = -1
            connect 0 1 0 = -1
            connect 1 0 0 = -1
            connect 2 0 0 = -1
            """;

    private static final String NO_VALUE = """
            addKind b 1 1 1 1 1 = 0
            addKind i 1 1 1 1 1 = 1
            addKind n 1 1 1 1 1 = 2
            addKind o 1 1 1 1 1 = 3
            addKind x 1 1 1 1 1 = 4
            addKind l 1 1 1 1 1 = 5
            addCell 0 = 0
            addCell 1 = 1
            addCell 2 = 2
            addCell 3 = 3
            addCell 4 = 4
            addCell 5 = 5
            value 0 -1 -1 = 0
            value 1 -1 -1 = 1
            value 2 -1 -1 = 1
            value 3 -1 -1 = 1
            value 4 -1 -1 = 0
            value 5 -1 -1 = 0
            # one of two
            addInput 0 = 6
            connect 2 1 6 = -1
            connect 3 0 6 = -1
            connect 4 1 6 = -1
            value 2 1 0 = 1
            value 3 1 0 = 0
            value 4 1 0 = 1
            """;

    private static final String NO_PLACE = """
            addKind f 1 1 1 1 1 = 0
            addCell 0 = 0
            placeOf 0 = NoSuchElementException
            drop 0 = UnsupportedOperationException
            tree = UnsupportedOperationException
            scan = UnsupportedOperationException
            route = UnsupportedOperationException
            isSpare 0 = false
            checksum = 154
            fill = 0.0
            place 0 0 0 false = -1
            placeOf 0 = 0
            """;

    private static final String NO_WISH = """
            addKind f 1 1 1 1 1 = 0
            addCell 0 = 0
            place 0 5 5 false = -1
            wish 0 0 0 = -1
            wish 0 0 0 = 0
            """;

    private static final String NO_QUEUE = """
            addKind f 1 1 1 1 1 = 0
            addCell 0 = 0
            place 0 5 0 true = -1
            wish 0 5 1 = -1
            tree = 0
            legalize 0 = 0
            placeOf 0 = 5
            block 0 0 24 0 = 24
            # nothing needs room there
            legalize 0 = 0
            legalize 1 = 0
            placeOf 0 = 29
            """;

    private static final String NO_PAIR = """
            addKind b 1 1 1 1 1 = 0
            addCell 0 = 0
            improve = 0
            place 0 5 0 true = -1
            improve = 0
            addCell 0 = 1
            improve = 0
            place 1 7 0 true = -1
            improve = 0
            """;

    private static final String NO_PINS = """
            addKind b 2 1 1 1 1 = 0
            addCell 0 = 0
            addCell 0 = 1
            length 0 = 0
            connect 1 0 0 = -1
            length 0 = 0
            place 1 5 5 false = -1
            # one pin alone is not apart
            length 0 = 0
            length 1 = 0
            allLength = 0
            meanLength = 0.0
            place 0 5 5 false = UnsupportedOperationException
            place 0 3 5 false = -1
            length 0 = 1
            """;

    private static final String NO_PATH = """
            addKind b 1 1 1 1 1 = 0
            addKind f 1 1 1 1 1 = 1
            addCell 0 = 0
            addCell 1 = 1
            connect 1 0 0 = -1
            addOutput 0 0 = 0
            # nothing is at the input of the buffer
            late 0 0 = -1
            late 0 2 = -1
            early 0 0 = -1
            early 0 2 = -1
            slack 1 1 false = 9999
            slack 1 1 true = 9999
            slackOut 0 1 = 9999
            worst 1 = 9999
            worstAnew 1 = 9999
            late 1 1 = 1
            """;

    private static final String NO_PATH_THAT_COUNTS = """
            addKind b 1 9 1 1 1 = 0
            addKind f 1 9 1 1 1 = 1
            addInput 0 = 0
            addCell 0 = 0
            addCell 1 = 1
            connect 0 0 0 = -1
            connect 1 0 1 = -1
            addOutput 2 0 = 0
            setFalse 0 true = false
            late 1 1 = -1
            early 1 1 = -1
            slack 1 1 false = 9999
            slack 1 1 true = 9999
            slackOut 0 1 = 99
            worst 1 = 99
            setFalse 1 true = false
            late 2 1 = -1
            early 2 1 = -1
            slackOut 0 1 = 9999
            worst 1 = 9999
            worstAnew 1 = 9999
            """;

    private static final String NO_END = """
            addKind f 1 1 1 1 1 = 0
            addInput 0 = 0
            addCell 0 = 0
            worst 0 = 9999
            worst 1 = 9999
            worst 2 = 9999
            worstAnew 0 = 9999
            worstAnew 1 = 9999
            worstAnew 2 = 9999
            slack 0 1 false = 9999
            slack 0 1 true = 9999
            connect 0 0 0 = -1
            worst 1 = 98
            worstAnew 1 = 98
            """;

    private static final String NO_SINKS = """
            addKind b 1 1 1 1 1 = 0
            addInput 0 = 0
            addCell 0 = 0
            buffer 0 0 0 0 = UnsupportedOperationException
            buffer 1 0 0 0 = UnsupportedOperationException
            connect 0 0 0 = -1
            buffer 0 0 0 0 = 9999
            cellCount = 2
            # what the buffer drives goes to the cell 0
            connect 0 0 0 = 2
            connect 1 0 0 = 0
            """;

    private static final String NO_LESS = """
            addKind b 1 1 1 0 1 = 0
            addKind b 1 1 1 7 1 = 1
            addKind b 2 1 1 3 1 = 2
            addKind i 1 1 1 3 1 = 3
            addKind b 1 1 1 7 1 = 4
            addCell 0 = 0
            save = 0
            addCell 2 = 1
            addCell 3 = 2
            save = 6
            setKind 0 0 = 0
            setKind 1 2 = 2
            setKind 2 3 = 3
            """;

    private static final String NO_FLOPS = """
            addKind b 1 1 1 1 1 = 0
            addCell 0 = 0
            tree = 0
            scan = 0
            scanAt 0 = NoSuchElementException
            lockups = 0
            latency 0 = UnsupportedOperationException
            common 0 0 = UnsupportedOperationException
            setSkew 0 0 = UnsupportedOperationException
            setCycles 0 1 = UnsupportedOperationException
            slack 0 1 false = UnsupportedOperationException
            """;

    private static final String NO_TREE = """
            addKind f 1 1 1 1 1 = 0
            addCell 0 = 0
            addCell 0 = 1
            place 0 0 0 false = -1
            place 1 20 5 false = -1
            latency 0 = 0
            latency 1 = 0
            common 0 0 = 0
            common 0 1 = 0
            setSkew 1 -9 = 0
            latency 1 = -9
            common 1 1 = 0
            # both wires are 13 long: one of them is made longer
            tree = 26
            latency 0 = 13
            latency 1 = 4
            common 0 0 = 13
            common 0 1 = 0
            # gone, and nothing there again
            addInput 0 = 2
            latency 0 = 0
            latency 1 = -9
            common 0 0 = 0
            """;

    private static final String NO_WIRES = """
            addKind b 1 1 1 1 1 = 0
            addInput 0 = 0
            addCell 0 = 0
            place 0 5 5 false = -1
            route = 0
            routed 0 = 0
            routed 1 = 0
            detail 1 = 0
            shapes = 0
            isAsDrawn = true
            # two pins at one place
            connect 0 0 0 = -1
            place 0 0 0 false = 125
            route = 0
            routed 0 = 0
            detail 1 = 0
            shapes = 0
            opens = 0
            """;

    private static final String NOT_ROUTED = """
            addInput 0 = 0
            addOutput 0 5 = 0
            reroute 1 = UnsupportedOperationException
            routed 0 = UnsupportedOperationException
            detail 1 = UnsupportedOperationException
            usage 0 0 true = 0
            usage 22 5 true = 0
            usage 23 4 false = 0
            route = 0
            routed 0 = 28
            usage 0 0 true = 1
            setCapacity 4 3 = 43
            reroute 1 = UnsupportedOperationException
            routed 0 = UnsupportedOperationException
            detail 1 = UnsupportedOperationException
            usage 0 0 true = 0
            usage 23 4 false = 0
            """;

    private static final String NONE_OVER_FULL = """
            addInput 0 = 0
            addInput 0 = 1
            addOutput 0 1 = 0
            addOutput 1 0 = 1
            setCapacity 2 1 = 43
            route = 0
            usage 5 0 true = 2
            # full is not over full: nothing is routed again
            reroute 9 = 0
            usage 5 0 true = 2
            """;

    private static final String NO_SHAPES = """
            addInput 0 = 0
            addInput 1 = 1
            addOutput 0 5 = 0
            shapes = 0
            shapeAt 0 l = IndexOutOfBoundsException
            removeShape 0 = IndexOutOfBoundsException
            breaches s = 0
            breaches a = 0
            breachesAnew = 0
            coupling 0 1 = 0
            shorts = 0
            opens = 1
            isAsDrawn = false
            addShape 0 0 0 0 1 0 = 0
            removeShape 0 = 0
            removeShape 0 = IndexOutOfBoundsException
            shapeAt 0 l = IndexOutOfBoundsException
            """;

    private static final String NONE_BESIDE = """
            addInput 0 = 0
            addInput 1 = 1
            delta 0 = 0
            addShape 0 0 0 0 23 0 = 0
            delta 0 = 0
            addShape 0 0 2 0 23 1 = 1
            delta 0 = 0
            delta 1 = 0
            """;

    private static final String NO_CHAIN = """
            addKind f 1 1 1 1 1 = 0
            addCell 0 = 0
            addCell 0 = 1
            setSkew 1 9 = 0
            place 0 0 0 false = -1
            place 1 9 0 false = -1
            scanAt 0 = NoSuchElementException
            lockups = 0
            scan = 9
            scanAt 0 = 0
            scanAt 2 = NoSuchElementException
            lockups = 1
            place 1 9 0 false = 9
            scanAt 0 = NoSuchElementException
            lockups = 0
            """;

    private static final String NO_SPARE = """
            addKind b 1 1 1 1 1 = 0
            addCell 0 = 0
            addCell 0 = 1
            place 0 0 0 false = -1
            connect 1 0 0 = -1
            change 0 0 = UnsupportedOperationException
            change 0 1 = UnsupportedOperationException
            change 1 0 = UnsupportedOperationException
            """;

    private static final String NO_TWO_PLACES = """
            addKind b 1 1 1 1 1 = 0
            addInput 0 = 0
            opens = 0
            addCell 0 = 0
            connect 0 0 0 = -1
            place 0 0 0 false = -1
            # two pins at one place are not open, without any shape
            opens = 0
            isAsDrawn = true
            place 0 1 0 false = 0
            opens = 1
            """;
}
