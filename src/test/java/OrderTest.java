/**
 * Of several exceptions that apply the one that is documented first is thrown, pair by pair, and nothing is changed
 * by it: neither the chip with wires, shapes, tree and chain, nor the full one.
 */
public final class OrderTest {
    private OrderTest() {
    }

    public static void main(String[] args) {
        Script.runAll("2 addKind: argument, state", FULL + KINDS, "3 addCell: index, state", FULL + CELLS,
                "4 addInput: argument, state", FULL + INPUTS, "5 addOutput: index, argument, state", FULL + OUTPUTS,
                "7 connect: index, unsupported", DRAWN + CONNECT, "8 setKind: index, unsupported", DRAWN + SET_KIND,
                "11 place: index, argument, unsupported", DRAWN + PLACE, "13 wish: index, argument", DRAWN + WISH,
                "14 legalize: argument, unsupported", DRAWN + LEGALIZE,
                "20 setCycles, 33 setSkew: index, argument, unsupported", DRAWN + FLOPS,
                "22 late, 23 early: index, argument", DRAWN + NET_TIMES,
                "24 slack, 25 slackOut: index, argument, unsupported", DRAWN + SLACKS,
                "28 buffer: index, argument, unsupported", DRAWN + BUFFER, "28 buffer: and state", FULL + FULL_BUFFER,
                "32 common: index, unsupported", DRAWN + COMMON, "36 reroute, 39 detail: argument, unsupported", UNROUTED,
                "37 routed: index, unsupported", UNROUTED_NET, "41 shapeAt: index, argument", DRAWN + SHAPE_AT,
                "42 addShape: index, argument", DRAWN + SHAPE, "42 addShape: and state", shapesOfAll() + FULL_SHAPE,
                "50 setDomain: index, argument", DRAWN + DOMAIN, "54 change: index, unsupported", DRAWN + CHANGE,
                "one exception alone: what is drawn stays", DRAWN + ALONE);
    }

    /** 12 kinds, 18 cells, 6 inputs and 6 outputs, with tree, chain, wires and shapes. */
    private static final String FULL = """
            addKind b 1 1 1 1 1
            addKind i 1 1 1 1 1
            addKind f 1 1 1 1 1
            addKind b 4 1 1 1 1
            addKind b 1 1 1 1 1
            addKind b 1 1 1 1 1
            addKind b 1 1 1 1 1
            addKind b 1 1 1 1 1
            addKind b 1 1 1 1 1
            addKind b 1 1 1 1 1
            addKind b 1 1 1 1 1
            addKind b 1 1 1 1 1
            addInput 0
            addInput 0
            addInput 0
            addInput 0
            addInput 0
            addInput 0
            addOutput 0 0
            addOutput 0 0
            addOutput 0 0
            addOutput 0 0
            addOutput 1 0
            addOutput 1 0
            addCell 0
            addCell 0
            addCell 1
            addCell 2
            addCell 0
            addCell 0
            addCell 0
            addCell 0
            addCell 0
            addCell 0
            addCell 0
            addCell 0
            addCell 0
            addCell 0
            addCell 0
            addCell 0
            addCell 0
            addCell 0
            place 0 0 0 false
            place 1 5 0 true
            connect 2 0 0
            connect 4 0 0
            connect 5 0 0
            place 2 2 1 false
            place 3 4 1 false
            place 4 6 1 false
            place 5 8 1 false
            place 6 2 2 false
            place 7 4 2 false
            place 8 6 2 false
            place 9 8 2 false
            place 10 2 3 false
            place 11 4 3 false
            place 12 6 3 false
            place 13 8 3 false
            place 14 2 4 false
            place 15 4 4 false
            place 16 6 4 false
            place 17 8 4 false
            tree
            scan
            route
            detail 2
            addShape 0 5 1 2 9 2
            """;

    /** Kinds, cells, a flip-flop and a spare cell, with tree, chain, wires and shapes. */
    private static final String DRAWN = """
            addKind b 2 4 1 3 5
            addKind i 1 2 2 5 9
            addKind f 3 3 2 8 7
            addInput 1
            addCell 0
            addCell 1
            addCell 2
            addCell 0
            addCell 2
            connect 0 0 0
            connect 1 0 1
            connect 2 0 2
            connect 4 0 3
            addOutput 3 4
            block 20 0 4 0
            place 0 5 0 false
            place 1 9 1 true
            place 2 12 2 false
            place 3 16 4 true
            place 4 3 3 false
            setPeriod 60
            setDerate 15
            setSkew 4 2
            tree
            scan
            route
            detail 2
            addShape 0 5 1 2 9 2
            """;

    private static final String KINDS = """
            addKind q 1 1 1 1 1 = IllegalArgumentException
            addKind b 0 1 1 1 1 = IllegalArgumentException
            addKind b 5 1 1 1 1 = IllegalArgumentException
            addKind b 1 0 1 1 1 = IllegalArgumentException
            addKind b 1 1 10 1 1 = IllegalArgumentException
            addKind b 1 1 1 100 1 = IllegalArgumentException
            addKind b 1 1 1 1 -1 = IllegalArgumentException
            addKind b 1 1 1 1 1 = IllegalStateException
            addKind i 4 9 9 99 99 = IllegalStateException
            """;

    private static final String CELLS = """
            addCell -1 = IndexOutOfBoundsException
            addCell 12 = IndexOutOfBoundsException
            addCell 0 = IllegalStateException
            addCell 11 = IllegalStateException
            """;

    private static final String INPUTS = """
            addInput -1 = IllegalArgumentException
            addInput 6 = IllegalArgumentException
            addInput 0 = IllegalStateException
            addInput 5 = IllegalStateException
            """;

    private static final String OUTPUTS = """
            addOutput -1 -1 = IndexOutOfBoundsException
            addOutput 24 6 = IndexOutOfBoundsException
            addOutput 24 0 = IndexOutOfBoundsException
            addOutput 0 6 = IllegalArgumentException
            addOutput 0 -1 = IllegalArgumentException
            addOutput 0 0 = IllegalStateException
            addOutput 23 5 = IllegalStateException
            """;

    private static final String CONNECT = """
            # to itself is a ring, but there is no second input, no such cell, no such net
            connect 0 1 1 = IndexOutOfBoundsException
            connect 0 -1 1 = IndexOutOfBoundsException
            connect 5 0 1 = IndexOutOfBoundsException
            connect 0 0 6 = IndexOutOfBoundsException
            connect 0 0 1 = UnsupportedOperationException
            connect 0 0 2 = UnsupportedOperationException
            connect 1 0 2 = UnsupportedOperationException
            """;

    private static final String SET_KIND = """
            setKind 5 2 = IndexOutOfBoundsException
            setKind 0 3 = IndexOutOfBoundsException
            setKind -1 -1 = IndexOutOfBoundsException
            setKind 0 1 = UnsupportedOperationException
            setKind 2 0 = UnsupportedOperationException
            """;

    private static final String PLACE = """
            place 5 24 0 false = IndexOutOfBoundsException
            place -1 0 6 false = IndexOutOfBoundsException
            place 5 20 0 false = IndexOutOfBoundsException
            # beyond the row, but there is no such site either
            place 0 24 0 false = IllegalArgumentException
            place 0 -1 0 false = IllegalArgumentException
            place 0 20 -1 false = IllegalArgumentException
            place 0 9 6 false = IllegalArgumentException
            place 0 23 1 false = UnsupportedOperationException
            place 0 19 0 true = UnsupportedOperationException
            place 0 8 1 true = UnsupportedOperationException
            place 0 9 1 true = UnsupportedOperationException
            """;

    private static final String WISH = """
            wish 5 24 0 = IndexOutOfBoundsException
            wish -1 0 -1 = IndexOutOfBoundsException
            wish 0 24 0 = IllegalArgumentException
            wish 0 0 6 = IllegalArgumentException
            """;

    private static final String LEGALIZE = """
            wish 0 0 0
            block 0 0 24 0
            legalize 6 = IllegalArgumentException
            legalize -1 = IllegalArgumentException
            legalize 0 = UnsupportedOperationException
            """;

    private static final String FLOPS = """
            setCycles 5 0 = IndexOutOfBoundsException
            setCycles -1 5 = IndexOutOfBoundsException
            setCycles 0 0 = IllegalArgumentException
            setCycles 0 5 = IllegalArgumentException
            setCycles 2 5 = IllegalArgumentException
            setCycles 0 1 = UnsupportedOperationException
            setSkew 5 10 = IndexOutOfBoundsException
            setSkew -1 -10 = IndexOutOfBoundsException
            setSkew 0 10 = IllegalArgumentException
            setSkew 0 -10 = IllegalArgumentException
            setSkew 2 10 = IllegalArgumentException
            setSkew 0 9 = UnsupportedOperationException
            """;

    private static final String NET_TIMES = """
            late 6 3 = IndexOutOfBoundsException
            late -1 -1 = IndexOutOfBoundsException
            late 0 3 = IllegalArgumentException
            early 6 3 = IndexOutOfBoundsException
            early -1 -1 = IndexOutOfBoundsException
            early 0 -1 = IllegalArgumentException
            """;

    private static final String SLACKS = """
            slack 5 3 false = IndexOutOfBoundsException
            slack -1 -1 true = IndexOutOfBoundsException
            slack 0 3 true = IllegalArgumentException
            slack 0 -1 false = IllegalArgumentException
            slack 0 1 false = UnsupportedOperationException
            slack 1 1 true = UnsupportedOperationException
            slackOut 1 3 = IndexOutOfBoundsException
            slackOut -1 -1 = IndexOutOfBoundsException
            slackOut 0 3 = IllegalArgumentException
            """;

    private static final String BUFFER = """
            buffer 6 0 24 0 = IndexOutOfBoundsException
            buffer 0 3 0 6 = IndexOutOfBoundsException
            buffer 6 1 5 0 = IndexOutOfBoundsException
            buffer 0 -1 5 0 = IndexOutOfBoundsException
            # no buffer, no sinks, no room, but the site or the row is wrong
            buffer 0 1 24 0 = IllegalArgumentException
            buffer 4 0 0 6 = IllegalArgumentException
            buffer 0 0 24 0 = IllegalArgumentException
            buffer 0 0 5 -1 = IllegalArgumentException
            buffer 0 1 0 5 = UnsupportedOperationException
            buffer 4 0 0 5 = UnsupportedOperationException
            buffer 0 0 23 5 = UnsupportedOperationException
            buffer 0 0 19 0 = UnsupportedOperationException
            buffer 0 0 4 0 = UnsupportedOperationException
            """;

    private static final String FULL_BUFFER = """
            buffer 24 0 1 0 = IndexOutOfBoundsException
            buffer 0 12 1 0 = IndexOutOfBoundsException
            buffer 0 0 24 0 = IllegalArgumentException
            buffer 0 0 1 6 = IllegalArgumentException
            # no buffer, seven sinks, none, no room
            buffer 1 1 1 0 = UnsupportedOperationException
            buffer 0 0 1 0 = UnsupportedOperationException
            buffer 2 0 1 0 = UnsupportedOperationException
            buffer 1 0 5 0 = UnsupportedOperationException
            buffer 1 3 21 0 = UnsupportedOperationException
            buffer 1 0 1 0 = IllegalStateException
            """;

    private static final String COMMON = """
            common 0 5 = IndexOutOfBoundsException
            common 5 0 = IndexOutOfBoundsException
            common -1 2 = IndexOutOfBoundsException
            common 0 2 = UnsupportedOperationException
            common 2 0 = UnsupportedOperationException
            latency 5 = IndexOutOfBoundsException
            latency 0 = UnsupportedOperationException
            """;

    private static final String UNROUTED = """
            reroute 0 = IllegalArgumentException
            reroute 10 = IllegalArgumentException
            reroute 1 = UnsupportedOperationException
            detail 0 = IllegalArgumentException
            detail 5 = IllegalArgumentException
            detail 1 = UnsupportedOperationException
            # shapes by hand are there without wires too
            addInput 0
            addInput 1
            addShape 0 0 0 0 9 0
            addShape 0 1 1 0 9 1
            reroute 10 = IllegalArgumentException
            reroute 9 = UnsupportedOperationException
            detail 5 = IllegalArgumentException
            detail 4 = UnsupportedOperationException
            addKind f 1 1 1 1 1
            addCell 0
            addShape 0 1 1 0 9 1
            route = UnsupportedOperationException
            tree = UnsupportedOperationException
            scan = UnsupportedOperationException
            shapes = 1
            """;

    private static final String UNROUTED_NET = """
            routed 0 = IndexOutOfBoundsException
            addInput 0
            routed 1 = IndexOutOfBoundsException
            routed -1 = IndexOutOfBoundsException
            routed 0 = UnsupportedOperationException
            """;

    private static final String SHAPE_AT = """
            shapeAt -1 q = IndexOutOfBoundsException
            shapeAt 99 q = IndexOutOfBoundsException
            shapeAt 0 q = IllegalArgumentException
            """;

    private static final String SHAPE = """
            addShape 2 0 0 0 1 6 = IndexOutOfBoundsException
            addShape 0 6 0 0 1 -1 = IndexOutOfBoundsException
            addShape 0 0 4 0 1 6 = IndexOutOfBoundsException
            addShape 0 0 0 -1 1 6 = IndexOutOfBoundsException
            addShape 0 0 0 1 1 6 = IndexOutOfBoundsException
            addShape 0 0 0 1 1 5 = IllegalArgumentException
            """;

    private static final String FULL_SHAPE = """
            addShape 0 0 0 0 1 2 = IndexOutOfBoundsException
            addShape 2 0 0 0 1 2 = IndexOutOfBoundsException
            addShape 2 0 0 0 1 0 = IllegalArgumentException
            addShape 0 6 0 0 1 0 = IllegalArgumentException
            addShape 0 0 4 0 1 0 = IllegalArgumentException
            addShape 0 0 0 -1 1 0 = IllegalArgumentException
            addShape 0 0 0 3 3 0 = IllegalArgumentException
            addShape 0 0 0 0 1 0 = IllegalStateException
            """;

    private static final String DOMAIN = """
            setDomain 5 2 = IndexOutOfBoundsException
            setDomain -1 -1 = IndexOutOfBoundsException
            setDomain 0 2 = IllegalArgumentException
            setDomain 0 -1 = IllegalArgumentException
            """;

    private static final String CHANGE = """
            # the same one, of another type, no spare one, but one of them is not there
            change 5 5 = IndexOutOfBoundsException
            change 1 5 = IndexOutOfBoundsException
            change 5 0 = IndexOutOfBoundsException
            change -1 3 = IndexOutOfBoundsException
            change 3 3 = UnsupportedOperationException
            change 1 3 = UnsupportedOperationException
            change 2 4 = UnsupportedOperationException
            """;

    private static final String ALONE = """
            netOf 5 = IndexOutOfBoundsException
            value 6 0 0 = IndexOutOfBoundsException
            block 23 0 2 0 = IllegalArgumentException
            block 20 5 5 3 = IllegalArgumentException
            placeOf 5 = IndexOutOfBoundsException
            length 6 = IndexOutOfBoundsException
            setPeriod 0 = IllegalArgumentException
            setFalse 5 true = IndexOutOfBoundsException
            setDerate 51 = IllegalArgumentException
            worst 3 = IllegalArgumentException
            worstAnew 3 = IllegalArgumentException
            setCapacity 0 9 = IllegalArgumentException
            setCapacity 9 10 = IllegalArgumentException
            reroute 10 = IllegalArgumentException
            routed 6 = IndexOutOfBoundsException
            usage 23 0 true = IllegalArgumentException
            detail 5 = IllegalArgumentException
            removeShape 99 = IndexOutOfBoundsException
            setRules 9 50 49 99 = IllegalArgumentException
            setRules 9 1 100 100 = IllegalArgumentException
            breaches q = IllegalArgumentException
            coupling 0 6 = IndexOutOfBoundsException
            delta 6 = IndexOutOfBoundsException
            drop 5 = IndexOutOfBoundsException
            scanAt 2 = NoSuchElementException
            isSpare 5 = IndexOutOfBoundsException
            # a cell without a place comes: what is drawn is gone, and cannot be made anew
            addCell 2
            route = UnsupportedOperationException
            tree = UnsupportedOperationException
            scan = UnsupportedOperationException
            drop 5 = UnsupportedOperationException
            placeOf 5 = NoSuchElementException
            # a flip-flop without a place does not take away what there is
            place 5 0 5 false
            tree
            scan
            route
            detail 1
            setKind 5 1 = UnsupportedOperationException
            """;

    private static String shapesOfAll() {
        StringBuilder text = new StringBuilder("addInput 0\naddInput 1\n");
        for (int shape = 0; shape < 200; shape++) {
            text.append("addShape 0 ").append(shape % 6).append(' ').append(shape % 4).append(' ')
                    .append(shape % 20).append(' ').append(shape % 20 + 2).append(' ').append(shape % 2).append('\n');
        }
        return text.toString();
    }
}
