/** Promises 30 to 38: the tree of the clock, and wires. */
public final class WiresTest {
    private WiresTest() {
    }

    public static void main(String[] args) {
        Script.runAll("30 tree", TREE, "30 tree, several pairs", SEVERAL, "30 tree, longer wires", LONGER,
                "31 latency, 33 setSkew", LATENCY, "32 common", COMMON, "34 setCapacity", CAPACITY, "35 route", ROUTE,
                "35 route, several pins", PINS, "35 route, full edges", FULL, "36 reroute", REROUTE,
                "36 reroute, history", HISTORY, "37 routed, 38 usage", USAGE);
    }

    private static final String TREE = """
            tree = 0
            addKind f 3 1 1 0 0 = 0
            addKind b 1 1 1 0 0 = 1
            addCell 0 = 0
            addCell 1 = 1
            tree = UnsupportedOperationException
            place 0 5 5 false = -1
            # one point: no wires, no delay
            tree = 0
            latency 0 = 0
            common 0 0 = 0
            addCell 0 = 2
            tree = UnsupportedOperationException
            latency 0 = 0
            # mirrored or not, its own site counts; the middle of 5 and 10 is 7, 2 and 3 away
            place 2 10 5 true = -1
            tree = 6
            latency 0 = 3
            latency 2 = 3
            # rows too: 5 and 0 have 2 in the middle, and both are 5 away from there
            place 2 10 0 true = 130
            latency 0 = 0
            tree = 10
            latency 0 = 5
            tree = 10
            improve = 0
            latency 0 = 5
            """;

    private static final String SEVERAL = """
            addKind f 1 1 1 0 0 = 0
            addCell 0 = 0
            addCell 0 = 1
            addCell 0 = 2
            addCell 0 = 3
            place 0 0 0 false = -1
            place 1 4 0 false = -1
            place 2 8 0 false = -1
            place 3 12 0 false = -1
            # 0 and 1 are the first ones, at 2; then 2 and 3, at 10; then both, at 6
            tree = 16
            latency 3 = 6
            common 0 1 = 4
            common 2 3 = 4
            common 1 2 = 0
            # 1 and 3, to 7 in row 0, delay 2; 0 and these, to 8 in row 1, delay 4; 2 and those, to 14 in row 2
            place 0 10 3 false = 0
            place 1 6 0 false = 4
            place 2 20 3 false = 8
            place 3 9 0 false = 12
            tree = 28
            common 1 3 = 9
            common 0 1 = 7
            common 0 3 = 7
            common 0 2 = 0
            common 2 2 = 11
            """;

    private static final String LONGER = """
            addKind f 1 1 1 0 0 = 0
            addCell 0 = 0
            addCell 0 = 1
            addCell 0 = 2
            place 0 0 0 false = -1
            place 1 20 0 false = -1
            place 2 11 0 false = -1
            # 1 and 2 at 15, delay 5, wires 5 and 5; 0 and that at 7, delay 13 by the way of 8, wires 13 and 8
            tree = 31
            latency 0 = 13
            common 1 2 = 8
            # 0 is as near to 1 as to 2
            place 0 4 0 false = 0
            common 1 2 = 0
            place 1 0 0 false = 20
            place 2 8 0 false = 11
            tree = 12
            common 0 1 = 3
            common 0 2 = 0
            common 1 2 = 0
            """;

    private static final String LATENCY = """
            addKind f 1 1 1 0 0 = 0
            addKind b 1 1 1 0 0 = 1
            latency 0 = IndexOutOfBoundsException
            addCell 0 = 0
            addCell 1 = 1
            addCell 0 = 2
            latency 0 = 0
            setSkew 0 -9 = 0
            latency 0 = -9
            setSkew 0 9 = -9
            setSkew 0 10 = IllegalArgumentException
            setSkew 0 -10 = IllegalArgumentException
            setSkew 1 10 = IllegalArgumentException
            setSkew 1 0 = UnsupportedOperationException
            setSkew 3 10 = IndexOutOfBoundsException
            setSkew -1 0 = IndexOutOfBoundsException
            latency 1 = UnsupportedOperationException
            latency 3 = IndexOutOfBoundsException
            latency -1 = IndexOutOfBoundsException
            place 0 0 0 false = -1
            place 2 4 0 false = -1
            tree = 4
            latency 0 = 11
            latency 2 = 2
            setSkew 2 -3 = 0
            latency 2 = -1
            place 1 8 0 false = -1
            latency 0 = 9
            """;

    private static final String COMMON = """
            addKind f 1 1 1 0 0 = 0
            addKind b 1 1 1 0 0 = 1
            addCell 0 = 0
            addCell 1 = 1
            addCell 0 = 2
            common 0 3 = IndexOutOfBoundsException
            common 3 0 = IndexOutOfBoundsException
            common 1 -1 = IndexOutOfBoundsException
            common 0 1 = UnsupportedOperationException
            common 1 0 = UnsupportedOperationException
            common 0 2 = 0
            common 0 0 = 0
            place 0 0 0 false = -1
            place 2 4 0 false = -1
            tree = 4
            setSkew 0 5 = 0
            common 0 2 = 0
            common 0 0 = 2
            common 2 2 = 2
            wish 0 1 3 = -1
            legalize 3 = 0
            common 2 2 = 0
            """;

    private static final String CAPACITY = """
            setCapacity 0 1 = IllegalArgumentException
            setCapacity 10 1 = IllegalArgumentException
            setCapacity 1 0 = IllegalArgumentException
            setCapacity 1 10 = IllegalArgumentException
            setCapacity 9 1 = 43
            setCapacity 1 9 = 91
            addInput 0 = 0
            addOutput 0 0 = 0
            route = 0
            detail 1 = 0
            addShape 0 1 0 0 2 0 = 1
            setCapacity 10 9 = IllegalArgumentException
            setCapacity 1 9 = 19
            shapes = 0
            routed 0 = UnsupportedOperationException
            reroute 1 = UnsupportedOperationException
            detail 1 = UnsupportedOperationException
            usage 0 0 true = 0
            """;

    private static final String ROUTE = """
            route = 0
            addInput 1 = 0
            addInput 4 = 1
            addOutput 0 3 = 0
            addOutput 1 2 = 1
            # along the row of the tree, then along the site
            route = 0
            routed 0 = 25
            routed 1 = 25
            usage 0 1 true = 1
            usage 22 1 true = 1
            usage 22 3 true = 0
            usage 23 1 false = 1
            usage 23 2 false = 2
            usage 23 3 false = 1
            usage 0 4 true = 1
            usage 0 1 false = 0
            addKind b 1 1 1 0 0 = 0
            addCell 0 = 0
            route = UnsupportedOperationException
            routed 0 = UnsupportedOperationException
            place 0 0 0 false = -1
            route = 0
            # neither connected nor used: no wires
            routed 2 = 0
            addShape 0 0 0 0 1 0 = 0
            route = 0
            shapes = 0
            """;

    private static final String PINS = """
            addKind d 1 1 1 0 0 = 0
            addInput 2 = 0
            addCell 0 = 0
            addCell 0 = 1
            addCell 0 = 2
            connect 0 0 0 = -1
            connect 1 0 0 = -1
            connect 2 0 0 = -1
            place 0 6 2 false = -1
            place 1 9 0 false = -1
            place 2 6 4 false = -1
            # the nearest one, 6 in row 2; then 6 in row 4, by its site; then 9 in row 0, from 6 in row 2 by that row
            route = 0
            routed 0 = 13
            usage 5 2 true = 1
            usage 6 2 false = 1
            usage 6 3 false = 1
            usage 8 2 true = 1
            usage 9 0 false = 1
            usage 9 1 false = 1
            usage 6 1 false = 0
            # of two that are as near the lower place is first: 7 in row 0, and 7 in row 4 is nearer to it by the site
            place 0 7 0 false = 54
            place 1 7 4 false = 9
            place 2 20 5 false = 102
            route = 0
            usage 0 2 true = 1
            usage 6 2 true = 1
            usage 7 0 false = 1
            usage 7 1 false = 1
            usage 7 2 false = 1
            usage 7 3 false = 1
            # 20 in row 5 from 7 in row 4, along that row
            usage 7 4 true = 1
            usage 19 4 true = 1
            usage 20 4 false = 1
            routed 0 = 25
            """;

    private static final String FULL = """
            addInput 0 = 0
            addInput 0 = 1
            addInput 0 = 2
            addOutput 0 1 = 0
            addOutput 1 1 = 1
            addOutput 2 0 = 2
            setCapacity 1 1 = 43
            # net 1 goes along row 1, which costs less than the full row 0; net 2 has no other way
            route = 23
            usage 5 0 true = 2
            usage 5 1 true = 1
            usage 23 0 false = 1
            usage 0 0 false = 1
            setCapacity 2 1 = 11
            # room for two: the first way costs no less, but the edge at the end is full
            route = 0
            usage 5 0 true = 2
            usage 5 1 true = 1
            usage 0 0 false = 1
            setCapacity 2 2 = 21
            # the same costs: the row first
            route = 23
            usage 5 0 true = 3
            usage 23 0 false = 2
            """;

    private static final String REROUTE = """
            reroute 1 = UnsupportedOperationException
            reroute 0 = IllegalArgumentException
            reroute 10 = IllegalArgumentException
            addInput 0 = 0
            addInput 0 = 1
            addOutput 0 1 = 0
            addOutput 1 0 = 1
            setCapacity 1 1 = 43
            route = 23
            detail 1 = 1
            shapes = 2
            reroute 0 = IllegalArgumentException
            shapes = 2
            # net 0 goes along row 1 then
            reroute 1 = 0
            shapes = 0
            usage 5 0 true = 1
            usage 5 1 true = 1
            usage 0 0 false = 1
            usage 23 0 false = 0
            routed 0 = 24
            detail 1 = 0
            # without need it changes nothing but that shapes are gone
            reroute 9 = 0
            shapes = 0
            usage 0 0 false = 1
            detail 1 = 0
            isAsDrawn = true
            """;

    /** Net 0 is taken out and goes another way only as the history of the one edge in common has grown. */
    private static final String HISTORY = """
            addKind b 1 1 1 0 0 = 0
            addKind d 1 1 1 0 0 = 1
            addCell 0 = 0
            addCell 0 = 1
            addCell 0 = 2
            addCell 1 = 3
            addCell 1 = 4
            addCell 1 = 5
            connect 3 0 0 = -1
            connect 4 0 1 = -1
            connect 5 0 2 = -1
            # net 0 from 0 to 2 and a row down; net 1 from 1 to 2 in the row; net 2 from 0 to 1 in the row below
            place 0 0 0 false = -1
            place 3 2 1 false = -1
            place 1 1 0 false = -1
            place 4 3 0 false = -1
            place 2 0 1 false = -1
            place 5 1 1 false = -1
            setCapacity 1 1 = 43
            # net 1 shares the edge from 1 to 2 with net 0
            route = 1
            # the row costs 1 and 10 and 1, the site first 1 and 9 and 1: net 0 changes, and has net 2 beside it
            reroute 1 = 1
            usage 0 0 false = 1
            usage 0 1 true = 2
            usage 1 1 true = 1
            usage 1 0 true = 1
            # now 10 and 1 and 1 in the row below, against 1 and 10 and 1: the row first
            reroute 1 = 1
            usage 0 0 false = 0
            usage 1 0 true = 2
            # the histories are 2 and 1: the site first; they grow in turn
            reroute 1 = 1
            usage 0 1 true = 2
            reroute 9 = 1
            usage 0 1 true = 1
            usage 1 0 true = 2
            # anew, there is no history
            route = 1
            usage 1 0 true = 2
            reroute 1 = 1
            usage 0 1 true = 2
            """;

    private static final String USAGE = """
            addInput 0 = 0
            addOutput 0 5 = 0
            usage 0 0 true = 0
            routed 0 = UnsupportedOperationException
            routed 1 = IndexOutOfBoundsException
            routed -1 = IndexOutOfBoundsException
            route = 0
            routed 0 = 28
            routed 1 = IndexOutOfBoundsException
            usage 22 0 true = 1
            usage 23 0 true = IllegalArgumentException
            usage 23 4 false = 1
            usage 23 5 false = IllegalArgumentException
            usage 24 0 false = IllegalArgumentException
            usage -1 0 true = IllegalArgumentException
            usage 0 6 true = IllegalArgumentException
            usage 0 -1 false = IllegalArgumentException
            usage 22 5 true = 0
            """;
}
