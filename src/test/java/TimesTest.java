/** Promises 18 to 29: times. */
public final class TimesTest {
    private TimesTest() {
    }

    public static void main(String[] args) {
        Script.runAll("18 setPeriod", PERIOD, "19 setFalse", FALSE, "20 setCycles", CYCLES, "21 setDerate", DERATE,
                "22 late, 23 early: corners", CORNERS, "22 late: loads", LOADS, "22 late: wires", WIRES,
                "22 late, 23 early: several ways", WAYS, "24 slack: what is given back", GIVEN_BACK,
                "24 slack, 25 slackOut, 26 worst, 27 worstAnew: wrong numbers", WRONG, "26 worst, 27 worstAnew", WORST,
                "28 buffer", BUFFER, "28 buffer, of several the least", LEAST_SET, "28 buffer, refused", REFUSED,
                "28 buffer, sinks", SINKS, "28 buffer, the last sink", LAST_SINK, "28 buffer, full", FULL, "29 save", SAVE, "29 save, harm", HARM);
    }

    /** An input, an inverter, a flip-flop, one more and an output, in a row; nothing has a place. */
    private static final String CHAIN = """
            new
            addKind f 1 4 2 10 12 = 0
            addKind i 1 2 3 9 10 = 1
            addInput 0 = 0
            addCell 1 = 0
            addCell 0 = 1
            addCell 0 = 2
            connect 0 0 0 = -1
            connect 1 0 1 = -1
            connect 2 0 2 = -1
            addOutput 3 0 = 0
            """;

    private static final String PERIOD = CHAIN + """
            setPeriod 0 = IllegalArgumentException
            setPeriod -5 = IllegalArgumentException
            setPeriod 1000 = IllegalArgumentException
            slack 1 1 false = 86
            setPeriod 999 = 100
            slack 1 1 false = 985
            slack 1 1 true = 11
            slackOut 0 1 = 986
            setPeriod 1 = 999
            slack 1 1 false = -13
            slackOut 0 1 = -12
            setPeriod 7 = 1
            """;

    private static final String FALSE = CHAIN + """
            setFalse 3 true = IndexOutOfBoundsException
            setFalse -1 true = IndexOutOfBoundsException
            setFalse 0 true = false
            setFalse 0 true = true
            late 1 1 = -1
            early 1 1 = -1
            late 0 1 = 0
            slack 1 1 false = 9999
            slack 1 1 true = 9999
            slack 2 1 false = 85
            worst 1 = 85
            setFalse 0 false = true
            setFalse 0 false = false
            # paths begin at no false flip-flop, but end there
            setFalse 1 true = false
            late 2 1 = -1
            slack 1 1 false = 86
            slack 2 1 false = 9999
            setFalse 2 true = false
            slackOut 0 1 = 9999
            worst 1 = 86
            worstAnew 1 = 86
            """;

    private static final String CYCLES = CHAIN + """
            setCycles 1 4 = 1
            slack 1 1 false = 386
            slack 1 1 true = 11
            setCycles 1 2 = 4
            slack 1 1 false = 186
            slack 2 1 false = 85
            setCycles 1 0 = IllegalArgumentException
            setCycles 1 5 = IllegalArgumentException
            setCycles 3 5 = IndexOutOfBoundsException
            setCycles -1 1 = IndexOutOfBoundsException
            setCycles 0 0 = IllegalArgumentException
            setCycles 0 1 = UnsupportedOperationException
            setCycles 1 1 = 2
            """;

    private static final String DERATE = CHAIN + """
            setDerate 51 = IllegalArgumentException
            setDerate -1 = IllegalArgumentException
            setDerate 50 = 0
            late 1 0 = 13
            late 1 1 = 18
            late 1 2 = 21
            early 1 1 = 12
            # the delay of the flip-flop itself counts as it is
            late 2 1 = 13
            setSkew 1 5 = 0
            late 2 1 = 20
            early 2 1 = 18
            slack 2 1 false = 78
            slack 2 1 true = 17
            slack 1 1 false = 85
            # 5 and its half, cut, and 1
            slack 1 1 true = 4
            setSkew 1 -5 = 5
            late 2 1 = 6
            early 2 1 = 8
            slack 1 1 true = 18
            setDerate 0 = 50
            late 2 1 = 8
            setDerate 10 = 0
            setDerate 10 = 10
            late 1 1 = 13
            """;

    private static final String CORNERS = CHAIN + """
            late 0 0 = 0
            late 1 0 = 9
            late 1 1 = 12
            late 1 2 = 14
            early 1 0 = 9
            early 1 2 = 14
            late 2 0 = 10
            late 2 1 = 13
            late 2 2 = 15
            early 2 2 = 15
            late 4 0 = IndexOutOfBoundsException
            late -1 0 = IndexOutOfBoundsException
            late 4 3 = IndexOutOfBoundsException
            late 0 3 = IllegalArgumentException
            late 0 -1 = IllegalArgumentException
            early 4 0 = IndexOutOfBoundsException
            early -1 3 = IndexOutOfBoundsException
            early 0 3 = IllegalArgumentException
            early 0 -1 = IllegalArgumentException
            # a gate with nothing at its inputs
            addCell 1 = 3
            late 4 1 = -1
            early 4 1 = -1
            """;

    private static final String LOADS = """
            addKind b 1 3 1 0 7 = 0
            addKind d 1 1 3 0 0 = 1
            addKind d 1 1 5 0 0 = 2
            addKind d 1 1 9 0 0 = 3
            addInput 0 = 0
            addCell 0 = 0
            connect 0 0 0 = -1
            late 1 1 = 7
            addOutput 1 0 = 0
            addCell 1 = 1
            connect 1 0 1 = -1
            # 5 eighths of 5
            late 1 0 = 8
            late 1 1 = 10
            late 1 2 = 12
            addOutput 1 0 = 1
            # 7 eighths of 5, cut
            late 1 1 = 11
            addOutput 1 0 = 2
            # 5 and 1 of 24 parts of 21
            late 1 1 = 12
            addOutput 1 0 = 3
            addOutput 1 0 = 4
            addOutput 1 0 = 5
            addCell 2 = 2
            connect 2 0 1 = -1
            # a load of 20
            late 1 0 = 17
            late 1 1 = 22
            late 1 2 = 26
            addCell 3 = 3
            connect 3 0 1 = -1
            addCell 1 = 4
            connect 4 0 1 = -1
            # a load of 32
            late 1 1 = 33
            addCell 2 = 5
            connect 5 0 1 = -1
            addCell 1 = 6
            connect 6 0 1 = -1
            # a load of 40 beyond
            late 1 0 = 32
            late 1 1 = 40
            late 1 2 = 48
            """;

    private static final String WIRES = CHAIN + """
            place 0 23 0 false = -1
            place 1 4 0 false = -1
            length 1 = 19
            # a load of 2 and 9, half of 19 cut: 8 and 3 of 24 parts of 32 are 12
            late 1 1 = 22
            place 2 4 2 false = -1
            late 1 1 = 22
            # net 2 has a length of 2
            late 2 1 = 13
            # net 1 forks to two sites at once: its wires are longer than its length
            place 0 10 0 false = 23
            place 1 5 1 false = 4
            addKind d 1 1 1 1 1 = 2
            addCell 2 = 3
            place 3 15 1 false = -1
            connect 3 0 1 = -1
            length 1 = 11
            late 1 1 = 18
            route = 0
            length 1 = 11
            routed 1 = 12
            late 1 1 = 19
            early 1 1 = 19
            setCapacity 4 3 = 43
            late 1 1 = 18
            """;

    private static final String WAYS = """
            addKind n 1 9 1 0 10 = 0
            addKind f 1 9 1 0 3 = 1
            addInput 0 = 0
            addCell 0 = 0
            addCell 0 = 1
            addCell 1 = 2
            addCell 0 = 3
            connect 0 0 0 = -1
            connect 1 0 1 = -1
            connect 1 1 0 = -1
            # 0 and then 1, or 1 at once; both inputs of 3
            late 2 1 = 20
            early 2 1 = 10
            connect 3 0 2 = -1
            connect 3 1 3 = -1
            late 4 1 = 30
            early 4 1 = 13
            connect 2 0 4 = -1
            setSkew 2 9 = 0
            slack 2 1 false = 77
            slack 2 1 true = 10
            early 4 1 = 20
            setSkew 2 -9 = 9
            early 4 1 = 4
            slack 2 1 true = 12
            # in front of a false cell nothing comes, past it the other way does
            setFalse 0 true = false
            late 2 1 = 10
            late 1 1 = -1
            setFalse 1 true = false
            late 4 1 = 4
            setFalse 2 true = false
            late 4 1 = -1
            slack 2 1 false = 9999
            isSound = true
            """;

    private static final String GIVEN_BACK = """
            addKind f 1 4 2 10 12 = 0
            addCell 0 = 0
            addCell 0 = 1
            addCell 0 = 2
            connect 2 0 1 = -1
            connect 0 0 2 = -1
            connect 1 0 1 = -1
            place 0 2 0 false = -1
            place 1 12 0 false = -1
            place 2 16 0 false = -1
            tree = 18
            common 1 2 = 6
            # net 1: a load of 4 and 2, a delay of 12 and 3
            setDerate 50 = 0
            late 1 1 = 27
            early 1 1 = 23
            slack 2 1 false = 82
            slack 2 1 true = 13
            # from 1 to itself the common way is all of 8
            slack 1 1 false = 83
            slack 1 1 true = 14
            # from 2 to 0 there is none; net 2 has a load of 2 and 7, a delay of 12 and 4
            slack 0 1 false = 78
            setDerate 33 = 50
            # 8 and 2 for the clock, 15; given back 1 of 6, 2 of 8
            slack 2 1 false = 82
            slack 1 1 false = 83
            worst 1 = 80
            worstAnew 1 = 80
            # one that ends at the cell 0
            connect 0 0 1 = 2
            place 0 10 0 false = 2
            tree = 7
            common 0 1 = 2
            setDerate 50 = 33
            late 1 1 = 20
            slack 0 1 false = 82
            connect 0 0 2 = 1
            place 0 2 0 false = 10
            tree = 18
            setDerate 33 = 50
            setSkew 1 7 = 0
            # the common way is without skews: 19 and 15 come, 106 are due
            slack 2 1 false = 73
            """;

    private static final String WRONG = CHAIN + """
            slack 3 0 true = IndexOutOfBoundsException
            slack 3 5 true = IndexOutOfBoundsException
            slack -1 0 true = IndexOutOfBoundsException
            slack 0 3 true = IllegalArgumentException
            slack 1 -1 false = IllegalArgumentException
            slack 0 0 true = UnsupportedOperationException
            slackOut 1 0 = IndexOutOfBoundsException
            slackOut -1 9 = IndexOutOfBoundsException
            slackOut 0 3 = IllegalArgumentException
            slackOut 0 -1 = IllegalArgumentException
            worst 3 = IllegalArgumentException
            worst -1 = IllegalArgumentException
            worstAnew 3 = IllegalArgumentException
            worstAnew -1 = IllegalArgumentException
            """;

    private static final String WORST = """
            worst 0 = 9999
            worstAnew 2 = 9999
            """ + CHAIN + """
            worst 0 = 88
            worst 1 = 85
            worst 2 = 83
            worstAnew 0 = 88
            worstAnew 1 = 85
            worstAnew 2 = 83
            slackOut 0 0 = 90
            slackOut 0 1 = 87
            slackOut 0 2 = 85
            setCycles 2 2 = 1
            setCycles 1 2 = 1
            worst 1 = 87
            worstAnew 1 = 87
            # what comes too early does not count
            setSkew 2 9 = 0
            slack 2 1 true = 3
            worst 1 = 78
            worstAnew 1 = 78
            """;

    /** A weak inverter with two heavy diodes, and an output. */
    private static final String WEAK = """
            addKind i 1 1 1 0 0 = 0
            addKind d 1 1 8 0 0 = 1
            addKind b 1 9 1 3 5 = 2
            addKind l 1 9 1 3 5 = 3
            addInput 0 = 0
            addCell 0 = 0
            addCell 1 = 1
            addCell 1 = 2
            connect 0 0 0 = -1
            connect 1 0 1 = -1
            connect 2 0 1 = -1
            addOutput 1 0 = 0
            """;

    private static final String BUFFER = WEAK + """
            slackOut 0 1 = 58
            route = UnsupportedOperationException
            place 0 20 0 false = -1
            place 1 20 1 false = -1
            place 2 20 2 false = -1
            slackOut 0 1 = 52
            route = 0
            tree = 0
            buffer 1 2 22 0 = 92
            cellCount = 4
            netCount = 3
            netOf 3 = 2
            placeOf 3 = 22
            worst 1 = 92
            routed 0 = UnsupportedOperationException
            # both diodes are behind it, the output is not
            setFalse 3 true = false
            slackOut 0 1 = 92
            length 2 = 4
            length 1 = 3
            leakage = 3
            # it is behind the net
            connect 3 0 0 = 1
            isSound = true
            # the greatest one of times below 0
            connect 3 0 1 = 0
            connect 1 0 1 = 2
            connect 2 0 1 = 2
            setPeriod 1 = 100
            buffer 1 2 21 0 = -7
            """;

    private static final String LEAST_SET = """
            addKind f 1 9 1 0 0 = 0
            addKind b 2 9 1 3 0 = 1
            addInput 0 = 0
            addCell 0 = 0
            addCell 0 = 1
            connect 0 0 0 = -1
            connect 1 0 0 = -1
            addOutput 0 0 = 0
            # no matter which ones: the first one alone, 2 less than the period without any delay
            buffer 0 1 0 0 = 98
            setFalse 2 true = false
            slack 0 1 false = 9999
            slack 1 1 false = 98
            slackOut 0 1 = 100
            setFalse 2 false = true
            # its output is at the site 1, not mirrored
            place 0 3 0 false = -1
            length 3 = 2
            length 0 = 23
            # nothing comes there at all: the least number then
            addKind i 1 1 1 1 1 = 2
            addCell 2 = 3
            addCell 2 = 4
            connect 4 0 4 = -1
            buffer 4 1 5 5 = 98
            netOf 5 = 6
            connect 4 0 6 = 6
            """;

    private static final String REFUSED = WEAK + """
            place 0 20 0 false = -1
            buffer 2 2 22 0 = IndexOutOfBoundsException
            buffer -1 2 22 0 = IndexOutOfBoundsException
            buffer 1 4 22 0 = IndexOutOfBoundsException
            buffer 1 -1 99 0 = IndexOutOfBoundsException
            buffer 1 2 24 0 = IllegalArgumentException
            buffer 1 2 -1 0 = IllegalArgumentException
            buffer 1 2 0 6 = IllegalArgumentException
            buffer 1 0 0 -1 = IllegalArgumentException
            buffer 1 0 22 0 = UnsupportedOperationException
            buffer 1 3 22 0 = UnsupportedOperationException
            buffer 1 2 20 0 = UnsupportedOperationException
            block 21 0 1 0 = 1
            buffer 1 2 21 0 = UnsupportedOperationException
            addInput 0 = 2
            buffer 2 2 0 0 = UnsupportedOperationException
            addKind b 3 9 1 3 5 = 4
            buffer 1 4 22 2 = UnsupportedOperationException
            cellCount = 3
            """;

    private static final String SINKS = """
            addKind n 1 9 1 0 0 = 0
            addKind b 1 9 1 0 0 = 1
            addInput 0 = 0
            addCell 0 = 0
            addCell 0 = 1
            connect 0 0 0 = -1
            connect 0 1 0 = -1
            connect 1 0 0 = -1
            connect 1 1 0 = -1
            addOutput 0 0 = 0
            addOutput 0 0 = 1
            addOutput 0 0 = 2
            # seven of them
            buffer 0 1 0 0 = UnsupportedOperationException
            connect 0 0 1 = UnsupportedOperationException
            addInput 0 = 3
            connect 1 1 3 = 0
            buffer 0 1 0 0 = 100
            # the first input alone
            connect 0 0 0 = 4
            connect 1 0 0 = 0
            isSound = true
            """;

    /** A buffer is the last sink of the net into which it was put, behind outputs too, until it is connected anew. */
    private static final String LAST_SINK = """
            addKind i 1 1 1 0 0 = 0
            addKind b 1 1 1 0 0 = 1
            addCell 0 = 0
            addCell 0 = 1
            connect 1 0 0 = -1
            addOutput 0 0 = 0
            buffer 0 1 5 0 = 9999
            connect 1 0 0 = 2
            connect 1 0 2 = 0
            # the output is the first sink, the cell 2 the last one
            buffer 0 1 5 1 = 9999
            connect 2 0 0 = 0
            # and now the cell 2 the first one, ahead of another output and of the cell 3
            addOutput 0 0 = 1
            buffer 0 1 5 2 = 9999
            connect 2 0 0 = 4
            connect 3 0 0 = 0
            new
            addKind i 1 1 1 0 0 = 0
            addKind b 1 1 1 0 0 = 1
            addCell 0 = 0
            addOutput 0 0 = 0
            buffer 0 1 5 0 = 9999
            # of those that stay none comes ahead
            addOutput 0 0 = 1
            buffer 0 1 5 1 = 9999
            addOutput 0 0 = 2
            buffer 0 1 5 2 = 9999
            connect 1 0 0 = 0
            connect 2 0 0 = 0
            new
            addKind i 1 1 1 0 0 = 0
            addKind b 1 1 1 0 0 = 1
            addCell 0 = 0
            addOutput 0 0 = 0
            buffer 0 1 5 0 = 9999
            # the cell 1 goes behind the cell 2, where it stands as any other one, ahead of an output
            buffer 0 1 5 1 = 9999
            addOutput 2 0 = 1
            buffer 2 1 5 2 = 9999
            connect 1 0 0 = 3
            connect 2 0 0 = 0
            new
            addKind i 1 1 1 0 0 = 0
            addKind b 1 1 1 0 0 = 1
            addCell 0 = 0
            addCell 0 = 1
            addOutput 0 0 = 0
            place 1 0 5 false = -1
            # as the spare cell 1 drives it too
            buffer 0 1 5 0 = 9999
            addOutput 0 0 = 1
            change 0 1 = 2
            buffer 1 1 5 1 = 9999
            connect 2 0 0 = 3
            connect 3 0 0 = 1
            """;

    private static final String FULL = """
            addKind b 1 9 1 0 0 = 0
            addKind i 1 9 1 0 0 = 1
            addInput 0 = 0
            addOutput 0 0 = 0
            addCell 0 = 0
            addCell 0 = 1
            addCell 0 = 2
            addCell 0 = 3
            addCell 0 = 4
            addCell 0 = 5
            addCell 0 = 6
            addCell 0 = 7
            addCell 0 = 8
            addCell 0 = 9
            addCell 0 = 10
            addCell 0 = 11
            addCell 0 = 12
            addCell 0 = 13
            addCell 0 = 14
            addCell 0 = 15
            addCell 0 = 16
            buffer 0 0 1 0 = 98
            buffer 0 0 2 0 = IllegalStateException
            buffer 0 0 1 0 = UnsupportedOperationException
            buffer 0 1 2 0 = UnsupportedOperationException
            buffer 0 0 24 0 = IllegalArgumentException
            buffer 0 2 24 0 = IndexOutOfBoundsException
            """;

    private static final String SAVE = """
            save = 0
            addKind n 2 2 3 40 10 = 0
            addKind n 2 2 3 20 10 = 1
            addKind n 2 2 3 10 10 = 2
            addKind n 2 3 3 10 10 = 3
            addKind n 1 2 3 1 10 = 4
            addKind o 2 2 3 1 10 = 5
            addKind d 1 2 3 9 10 = 6
            addKind d 1 2 3 8 10 = 7
            addCell 0 = 0
            addCell 1 = 1
            addCell 3 = 2
            addCell 6 = 3
            addCell 4 = 4
            route = UnsupportedOperationException
            tree = 0
            save = 39
            leakage = 39
            # of those that leak alike the first one; less than its own alone
            setKind 0 2 = 2
            setKind 1 2 = 2
            setKind 2 3 = 3
            setKind 3 7 = 7
            setKind 4 4 = 4
            save = 39
            """;

    private static final String HARM = """
            addKind i 1 9 1 50 10 = 0
            addKind i 1 9 1 10 60 = 1
            addKind i 1 9 1 20 30 = 2
            addInput 0 = 0
            addCell 0 = 0
            addCell 0 = 1
            connect 0 0 0 = -1
            connect 1 0 1 = -1
            addOutput 2 0 = 0
            # 0 is enough
            setPeriod 48 = 100
            save = 70
            worst 2 = 0
            setKind 0 0 = 2
            setPeriod 60 = 48
            worst 2 = 36
            # 60 is too much for the first one, 30 leaves a worst time of 12, for the second one all is too much
            save = 70
            worst 2 = 12
            setPeriod 200 = 60
            save = 20
            worst 2 = 56
            # below 0 it is enough not to become worse
            setKind 0 0 = 1
            setKind 1 0 = 1
            setPeriod 10 = 200
            worst 2 = -14
            save = 100
            addKind i 1 9 1 40 9 = 3
            save = 80
            worst 2 = -10
            """;
}
