/** The edges that the sections "What it is" and "Terms" name, each one by itself. */
public final class EdgesTest {
    private EdgesTest() {
    }

    public static void main(String[] args) {
        Script.runAll("6 rows of 24 sites", SITES, "a cell has its width of sites from its own on", WIDTH,
                "inputs at the first site, the output at the last one", PINS, "pins that have a place", PLACED_PINS,
                "ordered by sites, then by numbers", QUEUE, "neither blocked nor taken by others", GAP,
                "the first one farthest to the left", LEFTMOST, "the length becomes less", NOT_LESS,
                "the first pair by numbers", FIRST_PAIR, "half of its length, cut", HALF_LENGTH,
                "2 for each output of the chip", OUTPUT_LOAD, "the table, drive 1", table(1, "0 14 16 18 42 64 77 80 82"),
                "the table, drive 3", table(3, "0 4 5 5 13 20 25 26 26"), "the table, drive 9", table(9, "0 0 1 1 3 6 7 8 8"),
                "80, 100 and 120 hundredths, cut", CORNERS, "greater by the derate, each cut", DERATE,
                "2 ahead of the clock, 1 behind it", CLOCK, "a clock ahead of 0", EARLY_CLOCK,
                "one period for each of its cycles", CYCLES, "an output within one period", PERIOD,
                "the derate of the common way, cut", COMMON_WAY, "sinks by cells, then by inputs, ahead of outputs", SINKS,
                "of several sets the least number", LEAST_SET, "kinds by leakage, then by numbers", KINDS,
                "at least 0, or at least what it was", HARM, "in the middle, each number cut", MIDDLE,
                "the earliest ones of several", EARLIEST, "points with the delay 0, each time", AGAIN, "the first point that has both behind it", COMMON_POINT);
        Script.runAll("the lowest of several pins", LOWEST_PIN, "the lowest of several places of the tree", LOWEST_PLACE,
                "or of a site and then a row if that costs less", COSTS_LESS, "8 if it is full already", FULL_ALREADY,
                "1 and its history, and 8 along a row", HISTORY, "1 and its history, and 8 along a site", HISTORY_DOWN,
                "1 and its history, and 8 at the last edges", HISTORY_LAST,
                "each net that has an edge that is over full then", OVER_FULL_THEN,
                "how many go along a row, how many go from row to row", ACROSS_AND_DOWN,
                "0 if it is in this tree", IN_TREE, "it ends when none is over full", ENDS,
                "wires without a break", BREAK, "at least the gap behind the end", TRACK_GAP,
                "the mask is the track modulo 2", MASK, "less than the gap behind the end", RULE_GAP,
                "shapes shorter than told", SHORTER, "sites 0 to 7, 8 to 15 and 16 to 23", WINDOWS,
                "out of the told bounds", BOUNDS,
                "1, 0, 100 and 99 at first", FIRST_RULES, "100 hundredths at first", FIRST_FILL, "greater than told", ANTENNA, "in unlike domains, no shifter", SHIFTER,
                "for the steps that both have", BESIDE, "half of the sum, cut", HALF_SUM, "times that meet", MEET,
                "fed at both ends", DROP, "the least steps from the site 0 of the row 0", CHAIN,
                "the clock comes later to the latter", LATCH, "an input of its own, too", OWN_INPUT,
                "a place in common", TOUCH, "pins where a shape has their place", PIN_SHAPE,
                "pins at two places or more", TWO_PLACES, "shapes of both on one track", SHORT);
    }

    private static final String SITES = """
            addKind b 1 1 1 1 1 = 0
            addCell 0 = 0
            place 0 0 0 false = -1
            placeOf 0 = 0
            place 0 23 5 false = 0
            placeOf 0 = 143
            place 0 0 1 false = 143
            placeOf 0 = 24
            fill = 0.0069444445
            """;

    private static final String WIDTH = """
            addKind b 4 1 1 1 1 = 0
            addKind b 1 1 1 1 1 = 1
            addCell 0 = 0
            addCell 1 = 1
            place 0 8 0 false = -1
            place 1 8 0 false = UnsupportedOperationException
            place 1 11 0 false = UnsupportedOperationException
            place 1 7 0 false = -1
            place 1 12 0 false = 7
            place 0 7 0 true = 8
            place 1 11 0 false = 12
            place 1 10 0 false = UnsupportedOperationException
            place 0 20 5 false = 7
            place 0 21 5 false = UnsupportedOperationException
            fill = 0.034722224
            """;

    private static final String PINS = """
            addKind b 4 1 1 1 1 = 0
            addKind b 1 1 1 1 1 = 1
            addInput 0 = 0
            addCell 0 = 0
            addCell 1 = 1
            connect 0 0 0 = -1
            connect 1 0 1 = -1
            place 0 5 0 false = -1
            place 1 10 0 false = -1
            length 0 = 5
            length 1 = 2
            place 0 5 0 true = 5
            length 0 = 8
            length 1 = 5
            # one site is the first and the last one
            place 1 10 0 true = 10
            length 1 = 5
            addOutput 2 0 = 0
            length 2 = 13
            """;

    private static final String PLACED_PINS = """
            addKind b 2 1 1 1 1 = 0
            addCell 0 = 0
            addCell 0 = 1
            addCell 0 = 2
            connect 1 0 0 = -1
            connect 2 0 0 = -1
            place 1 3 1 false = -1
            length 0 = 0
            place 2 20 4 false = -1
            length 0 = 20
            addOutput 0 0 = 0
            length 0 = 24
            place 0 0 5 true = -1
            length 0 = 28
            """;

    private static final String QUEUE = """
            addKind b 1 1 1 1 1 = 0
            addCell 0 = 0
            addCell 0 = 1
            addCell 0 = 2
            addCell 0 = 3
            wish 3 4 0 = -1
            wish 2 5 0 = -1
            wish 1 5 0 = -1
            wish 0 6 0 = -1
            legalize 0 = 2
            placeOf 3 = 3
            placeOf 1 = 4
            placeOf 2 = 5
            placeOf 0 = 6
            """;

    private static final String GAP = """
            addKind b 3 1 1 1 1 = 0
            addCell 0 = 0
            addCell 0 = 1
            block 0 0 10 0 = 10
            block 16 0 8 0 = 18
            wish 0 0 0 = -1
            legalize 0 = 10
            placeOf 0 = 10
            wish 1 23 0 = -1
            # six sites are left for both
            legalize 0 = 20
            placeOf 0 = 10
            placeOf 1 = 13
            wish 1 23 1 = 23
            # the other one stands there still
            legalize 0 = 10
            block 12 0 1 0 = 19
            legalize 0 = UnsupportedOperationException
            legalize 1 = 2
            placeOf 1 = 45
            legalize 0 = 13
            placeOf 0 = 13
            block 15 0 1 0 = 20
            legalize 0 = UnsupportedOperationException
            """;

    private static final String LEFTMOST = """
            addKind b 1 1 1 1 1 = 0
            addCell 0 = 0
            addCell 0 = 1
            wish 0 9 0 = -1
            block 8 0 3 0 = 3
            # 7 and 11 are as far away
            legalize 0 = 2
            placeOf 0 = 7
            wish 1 9 0 = -1
            legalize 0 = 4
            # both ends: 7 and 11, not 6 and 7, which is 5, nor 11 and 12
            placeOf 0 = 7
            placeOf 1 = 11
            block 11 0 1 0 = 4
            # 6 and 7 is 5, as is 7 and 12
            legalize 0 = 5
            placeOf 0 = 6
            placeOf 1 = 7
            """;

    private static final String NOT_LESS = """
            addKind b 1 1 1 1 1 = 0
            addInput 0 = 0
            addCell 0 = 0
            addCell 0 = 1
            connect 0 0 0 = -1
            connect 1 0 0 = -1
            place 0 9 0 false = -1
            place 1 3 0 false = -1
            # an exchange leaves the length as it is
            improve = 0
            addOutput 2 0 = 0
            # 9 and 20; exchanged 9 and 14
            improve = 1
            improve = 0
            placeOf 1 = 9
            allLength = 23
            """;

    private static final String FIRST_PAIR = """
            addKind b 1 1 1 1 1 = 0
            addInput 0 = 0
            addCell 0 = 0
            addCell 0 = 1
            addCell 0 = 2
            connect 2 0 0 = -1
            place 0 5 0 false = -1
            place 1 1 0 false = -1
            place 2 9 0 false = -1
            # 0 and 2 come ahead of 1 and 2, which would be shorter; both come to it in turn
            improve = 2
            placeOf 0 = 9
            placeOf 1 = 5
            placeOf 2 = 1
            """;

    private static final String HALF_LENGTH = """
            addKind b 1 1 1 1 0 = 0
            addKind d 1 1 1 1 0 = 1
            addInput 0 = 0
            addCell 0 = 0
            addCell 1 = 1
            connect 0 0 0 = -1
            connect 1 0 1 = -1
            place 0 5 5 false = -1
            # 2 for each one of the load: 1, and 0 of 1, 1 of 2, 1 of 3, 2 of 4
            place 1 6 5 false = -1
            late 1 1 = 2
            place 1 7 5 false = 126
            late 1 1 = 4
            place 1 8 5 false = 127
            late 1 1 = 4
            place 1 8 4 false = 128
            late 1 1 = 6
            route = 0
            late 1 1 = 6
            """;

    private static final String OUTPUT_LOAD = """
            addKind b 1 1 9 1 0 = 0
            addInput 0 = 0
            addCell 0 = 0
            connect 0 0 0 = -1
            late 1 1 = 0
            addOutput 1 0 = 0
            late 1 1 = 4
            addOutput 1 0 = 1
            late 1 1 = 8
            addOutput 1 0 = 2
            addOutput 1 0 = 3
            late 1 1 = 16
            """;

    /** A cell of a drive with the loads 0, 7, 8, 9, 18, 26, 31, 32 and 33. */
    private static String table(int drive, String delays) {
        StringBuilder text = new StringBuilder("addKind f 1 " + drive + " 1 0 0\n");
        int[] loads = {0, 7, 1, 1, 9, 8, 5, 1, 1};
        for (int i = 1; i < loads.length; i++) {
            text.append("addKind d 1 1 ").append(loads[i]).append(" 0 0 = ").append(i).append('\n');
        }
        text.append("addCell 0 = 0\n");
        for (int i = 0; i < loads.length; i++) {
            if (i > 0) {
                text.append("addCell ").append(i).append(" = ").append(i).append("\nconnect ").append(i).append(" 0 0\n");
            }
            text.append("late 0 1 = ").append(delays.split(" ")[i]).append('\n');
        }
        return text.toString();
    }

    private static final String CORNERS = """
            addKind f 1 9 1 1 9 = 0
            addKind f 1 9 1 1 4 = 1
            addKind f 1 9 1 1 1 = 2
            addKind f 1 9 1 1 99 = 3
            addCell 0 = 0
            addCell 1 = 1
            addCell 2 = 2
            addCell 3 = 3
            late 0 0 = 7
            late 0 1 = 9
            late 0 2 = 10
            late 1 0 = 3
            late 1 2 = 4
            late 2 0 = 0
            late 2 2 = 1
            late 3 0 = 79
            late 3 1 = 99
            late 3 2 = 118
            early 3 2 = 118
            # both together are cut, 9 and 1, not each one
            addOutput 0 0 = 0
            addOutput 0 0 = 1
            addOutput 0 0 = 2
            addOutput 0 0 = 3
            late 0 0 = 8
            late 0 2 = 12
            """;

    private static final String DERATE = """
            addKind i 1 9 1 1 9 = 0
            addKind f 1 9 1 1 9 = 1
            addCell 1 = 0
            addCell 0 = 1
            addCell 0 = 2
            connect 1 0 0 = -1
            connect 2 0 1 = -1
            setSkew 0 5 = 0
            setDerate 50 = 0
            # 7 and 9, whose own delay is as it is, then 13 and 13
            late 0 1 = 16
            late 1 1 = 29
            late 2 1 = 42
            early 0 1 = 14
            early 2 1 = 32
            setDerate 11 = 50
            # 9 hundredths of 11 are none
            late 2 1 = 32
            setDerate 12 = 11
            late 2 1 = 34
            """;

    private static final String CLOCK = """
            addKind f 1 9 1 1 9 = 0
            addInput 0 = 0
            addCell 0 = 0
            connect 0 0 0 = -1
            slack 0 1 false = 98
            slack 0 1 true = -1
            setSkew 0 9 = 0
            slack 0 1 false = 107
            slack 0 1 true = -10
            setDerate 50 = 0
            slack 0 1 false = 107
            slack 0 1 true = -14
            setPeriod 1 = 100
            slack 0 1 false = 8
            setSkew 0 0 = 9
            slack 0 1 false = -1
            worst 1 = -1
            """;

    private static final String EARLY_CLOCK = """
            addKind f 1 9 1 1 5 = 0
            addInput 0 = 0
            addCell 0 = 0
            connect 0 0 0 = -1
            setSkew 0 -9 = 0
            # a time of a path, not that there is none
            late 1 1 = -4
            early 1 1 = -4
            setSkew 0 -6 = -9
            late 1 1 = -1
            connect 0 0 1 = 0
            slack 0 1 false = 93
            setDerate 50 = 0
            late 1 1 = -4
            slack 0 1 false = 96
            """;

    private static final String CYCLES = """
            addKind f 1 9 1 1 9 = 0
            addInput 0 = 0
            addCell 0 = 0
            connect 0 0 0 = -1
            addOutput 0 0 = 0
            setCycles 0 4 = 1
            slack 0 1 false = 398
            # early changes and outputs have nothing of it
            slack 0 1 true = -1
            slackOut 0 1 = 100
            setPeriod 999 = 100
            slack 0 2 false = 3994
            setCycles 0 1 = 4
            slack 0 2 false = 997
            """;

    private static final String PERIOD = """
            addKind i 1 9 1 1 50 = 0
            addInput 0 = 0
            addCell 0 = 0
            connect 0 0 0 = -1
            addOutput 1 0 = 0
            setPeriod 50 = 100
            slackOut 0 1 = 0
            setPeriod 49 = 50
            slackOut 0 1 = -1
            setPeriod 51 = 49
            slackOut 0 1 = 1
            """;

    private static final String COMMON_WAY = """
            addKind f 1 9 1 1 9 = 0
            addCell 0 = 0
            addCell 0 = 1
            connect 0 0 0 = -1
            connect 1 0 0 = -1
            place 0 0 0 false = -1
            place 1 11 0 false = -1
            tree = 12
            # 6 of its own, nothing with the other one
            common 0 0 = 6
            common 0 1 = 0
            slack 0 1 false = 89
            setDerate 33 = 0
            # the clock comes at 7, 1 of it is given back
            slack 0 1 false = 89
            slack 1 1 false = 88
            slack 0 1 true = 8
            slack 1 1 true = 7
            """;

    private static final String SINKS = """
            addKind n 1 9 1 1 0 = 0
            addKind b 1 9 1 1 40 = 1
            addInput 0 = 0
            addCell 0 = 0
            addCell 0 = 1
            addCell 0 = 2
            connect 0 1 0 = -1
            connect 0 0 0 = -1
            connect 1 1 0 = -1
            addOutput 0 0 = 0
            addOutput 1 1 = 1
            # both inputs of 0 and the output 0 make a time worse; the third one is the input of 1, alone the set 4
            buffer 0 1 5 5 = 100
            slackOut 0 1 = 100
            slackOut 1 1 = 100
            connect 1 1 0 = 4
            connect 0 0 0 = 0
            connect 0 1 0 = 0
            connect 3 0 0 = 0
            new
            addKind n 1 9 1 1 0 = 0
            addKind b 1 9 1 1 1 = 1
            addInput 0 = 0
            addCell 0 = 0
            connect 0 1 0 = -1
            connect 0 0 0 = -1
            # all sets are as good: the first input of the cell
            buffer 0 1 5 5 = 9999
            connect 0 0 0 = 2
            connect 0 1 0 = 0
            new
            addKind f 1 9 1 1 0 = 0
            addKind b 1 9 1 1 1 = 1
            addInput 0 = 0
            addOutput 0 0 = 0
            addCell 0 = 0
            connect 0 0 0 = -1
            setSkew 0 2 = 0
            # the output and the flip-flop are as good: the flip-flop
            buffer 0 1 5 5 = 99
            slackOut 0 1 = 100
            connect 0 0 0 = 2
            """;

    private static final String LEAST_SET = """
            addKind f 1 9 1 1 0 = 0
            addKind b 1 9 1 1 1 = 1
            addInput 0 = 0
            addCell 0 = 0
            addCell 0 = 1
            addCell 0 = 2
            connect 2 0 0 = -1
            connect 1 0 0 = -1
            connect 0 0 0 = -1
            buffer 0 1 5 5 = 97
            connect 0 0 0 = 4
            connect 1 0 0 = 0
            connect 2 0 0 = 0
            """;

    private static final String KINDS = """
            addKind b 1 1 1 5 0 = 0
            addKind b 1 1 1 4 0 = 1
            addKind b 1 1 1 3 0 = 2
            addKind b 1 1 1 3 0 = 3
            addCell 0 = 0
            save = 3
            setKind 0 3 = 2
            # what leaks as much as its own is left out
            save = 3
            setKind 0 1 = 3
            save = 3
            setKind 0 0 = 2
            new
            addKind b 1 1 1 9 10 = 0
            addKind b 1 1 1 3 90 = 1
            addKind b 1 1 1 3 80 = 2
            addKind b 1 1 1 3 20 = 3
            addKind b 1 1 1 2 99 = 4
            addInput 0 = 0
            addCell 0 = 0
            connect 0 0 0 = -1
            addOutput 1 0 = 0
            setPeriod 50 = 100
            # the third one of those that leak 3
            save = 3
            setKind 0 0 = 3
            addKind b 1 1 1 3 10 = 5
            save = 3
            setKind 0 0 = 3
            setKind 0 4 = 0
            new
            addKind b 1 1 1 9 10 = 0
            addKind b 1 1 1 3 90 = 1
            addKind b 1 1 1 3 20 = 2
            addKind b 1 1 1 3 20 = 3
            addInput 0 = 0
            addCell 0 = 0
            connect 0 0 0 = -1
            addOutput 1 0 = 0
            setPeriod 50 = 100
            # the second one
            save = 3
            setKind 0 0 = 2
            """;

    private static final String HARM = """
            addKind i 1 9 1 9 10 = 0
            addKind i 1 9 1 8 20 = 1
            addInput 0 = 0
            addCell 0 = 0
            connect 0 0 0 = -1
            addOutput 1 0 = 0
            setPeriod 23 = 100
            # 24 in the corner 2 is 1 too much
            save = 9
            setPeriod 24 = 23
            save = 8
            worst 2 = 0
            setKind 0 0 = 1
            addKind i 1 9 1 7 10 = 2
            setPeriod 1 = 24
            # not better, but no worse
            worst 2 = -11
            save = 7
            worst 2 = -11
            setKind 0 0 = 2
            addKind i 1 9 1 6 11 = 3
            # 13 is worse than 12
            save = 7
            """;

    private static final String MIDDLE = """
            addKind f 1 1 1 1 1 = 0
            addCell 0 = 0
            addCell 0 = 1
            place 0 0 0 false = -1
            place 1 3 1 false = -1
            # 1 in the row 0: 1 and 3 away
            tree = 6
            latency 0 = 3
            latency 1 = 3
            place 1 0 0 false = UnsupportedOperationException
            place 0 20 4 false = 0
            place 1 23 5 false = 27
            # 21 in the row 4
            tree = 6
            latency 0 = 3
            """;

    private static final String EARLIEST = """
            addKind f 1 1 1 1 1 = 0
            addCell 0 = 0
            addCell 0 = 1
            addCell 0 = 2
            place 0 8 0 false = -1
            place 1 4 0 false = -1
            place 2 12 0 false = -1
            # 0 is as near to 1 as to 2, 1 comes first
            tree = 12
            common 0 1 = 3
            common 0 2 = 0
            common 1 2 = 0
            # and then 9, in the middle of 6, from where it is 3 and 2, and 12
            latency 0 = 5
            """;

    private static final String AGAIN = """
            addKind f 1 1 1 1 1 = 0
            addCell 0 = 0
            addCell 0 = 1
            place 0 0 0 false = -1
            place 1 20 0 false = -1
            tree = 20
            tree = 20
            latency 0 = 10
            # all points are new, with the delay 0: 0 and 2 are 1, then 20 and 1, 10 and 9 away from 10
            addCell 0 = 2
            place 2 2 0 false = -1
            tree = 21
            latency 2 = 10
            common 0 2 = 9
            tree = 21
            common 0 2 = 9
            scan = 20
            scan = 20
            scanAt 1 = 2
            scanAt 3 = NoSuchElementException
            """;

    private static final String COMMON_POINT = """
            addKind f 1 1 1 1 1 = 0
            addCell 0 = 0
            addCell 0 = 1
            addCell 0 = 2
            place 0 0 0 false = -1
            place 1 2 0 false = -1
            place 2 20 0 false = -1
            # 1 with the delay 1; then 10, of 9 and 1 and of 10
            tree = 21
            latency 0 = 10
            common 0 1 = 9
            common 1 0 = 9
            common 0 2 = 0
            common 0 0 = 10
            common 2 2 = 10
            """;

    private static final String LOWEST_PIN = """
            addKind d 1 1 1 1 1 = 0
            addInput 2 = 0
            addCell 0 = 0
            addCell 0 = 1
            connect 0 0 0 = -1
            connect 1 0 0 = -1
            place 0 1 1 false = -1
            place 1 0 0 false = -1
            # both are 2 away: 0 in the row 0 is the lower place; then 1 in the row 1 is 1 away from the way there
            route = 0
            routed 0 = 3
            usage 0 0 false = 1
            usage 0 1 false = 1
            usage 0 1 true = 1
            usage 0 2 true = 0
            """;

    private static final String LOWEST_PLACE = """
            addKind d 1 1 1 1 1 = 0
            addInput 0 = 0
            addCell 0 = 0
            addCell 0 = 1
            connect 0 0 0 = -1
            connect 1 0 0 = -1
            place 0 0 3 false = -1
            place 1 1 1 false = -1
            # 1 in the row 1 first, by 1 in the row 0; then 0 in the row 3 is 3 away from there, and from 0 in the row 0
            route = 0
            routed 0 = 5
            usage 0 0 true = 1
            usage 1 0 false = 1
            usage 0 0 false = 1
            usage 0 2 false = 1
            usage 0 1 true = 0
            """;

    private static final String COSTS_LESS = """
            addInput 0 = 0
            addOutput 0 1 = 0
            route = 0
            # the same costs: along the row, then along the site
            usage 0 0 true = 1
            usage 0 0 false = 0
            usage 23 0 false = 1
            addInput 0 = 1
            addOutput 1 1 = 1
            setCapacity 1 1 = 43
            # 24 edges by 9 against 24 by 1
            route = 0
            usage 0 0 true = 1
            usage 0 1 true = 1
            usage 0 0 false = 1
            """;

    private static final String FULL_ALREADY = """
            addInput 0 = 0
            addInput 0 = 1
            addInput 0 = 2
            addOutput 0 1 = 0
            addOutput 1 1 = 1
            addOutput 2 1 = 2
            setCapacity 3 3 = 43
            # room for one more, to the last one
            route = 0
            usage 7 0 true = 3
            usage 7 1 true = 0
            setCapacity 2 3 = 33
            route = 0
            usage 7 0 true = 2
            usage 7 1 true = 1
            """;

    private static final String HISTORY = """
            addKind b 1 1 1 0 0 = 0
            addKind n 1 1 1 0 0 = 1
            addCell 0 = 0
            addInput 0 = 1
            addInput 0 = 2
            addInput 0 = 3
            addInput 0 = 4
            addCell 1 = 1
            addCell 1 = 2
            connect 0 0 3 = -1
            connect 1 0 1 = -1
            connect 1 1 2 = -1
            connect 2 0 4 = -1
            connect 2 1 0 = -1
            
            # 1 and 2 from 0 to 1 in the row 0; 3 from there down, and the net 0 from 0 to 1 in the row 1: 4 goes between them
            place 0 0 1 false = -1
            place 1 1 0 false = -1
            place 2 1 1 false = -1
            setCapacity 1 1 = 43
            # by 1 in the row 0 it costs 9 and 1, by 0 in the row 1 it costs 9 and 9
            route = 2
            usage 0 0 true = 3
            usage 1 0 false = 1
            # each round gives 1: it does not change its way ahead of the ninth one, to come back later
            reroute 1 = 2
            reroute 1 = 2
            reroute 1 = 2
            reroute 1 = 2
            usage 1 0 false = 1
            reroute 1 = 2
            usage 1 0 false = 1
            reroute 1 = 2
            usage 1 0 false = 1
            reroute 1 = 2
            usage 1 0 false = 1
            # with a history of 8 both are 18: the row first; with 9 no more
            reroute 1 = 2
            usage 1 0 false = 1
            reroute 1 = 3
            usage 0 0 true = 2
            usage 1 0 false = 0
            usage 0 0 false = 2
            usage 0 1 true = 2
            # 20 by either way as that one has histories too
            reroute 1 = 2
            usage 1 0 false = 1
            # anew there is no history
            route = 2
            usage 1 0 false = 1
            reroute 8 = 2
            usage 1 0 false = 1
            reroute 1 = 3
            usage 1 0 false = 0
            """;

    private static final String HISTORY_DOWN = """
            addKind b 1 1 1 0 0 = 0
            addKind n 1 1 1 0 0 = 1
            addCell 0 = 0
            addInput 0 = 1
            addInput 0 = 2
            addInput 0 = 3
            addInput 0 = 4
            addCell 1 = 1
            addCell 1 = 2
            connect 0 0 3 = -1
            connect 1 0 1 = -1
            connect 1 1 2 = -1
            connect 2 0 4 = -1
            connect 2 1 0 = -1
            
            # 1 and 2 from the row 0 to the row 1 at 0; 3 from there to 1 in the row 0, and the net 0 from there down
            place 0 1 0 false = -1
            place 1 0 1 false = -1
            place 2 1 1 false = -1
            setCapacity 1 1 = 43
            # 4 goes down first: 9 and 1 against 9 and 9
            route = 2
            usage 0 0 false = 3
            usage 0 1 true = 1
            reroute 7 = 2
            usage 0 1 true = 1
            # with a history of 8 both are 18: the row first
            reroute 1 = 3
            usage 0 1 true = 0
            usage 0 0 false = 2
            usage 0 0 true = 2
            usage 1 0 false = 2
            # it was taken out where it was
            routed 4 = 2
            route = 2
            usage 0 1 true = 1
            reroute 7 = 2
            usage 0 1 true = 1
            """;

    private static final String HISTORY_LAST = """
            addKind b 1 1 1 0 0 = 0
            addCell 0 = 0
            addCell 0 = 1
            addCell 0 = 2
            addOutput 0 5 = 0
            addOutput 1 5 = 1
            addOutput 2 5 = 2
            # all to the last place: 0 by either way, 1 down at the site 23, 2 along the row 5
            place 0 22 4 false = -1
            place 1 23 4 false = -1
            place 2 22 5 false = -1
            setCapacity 1 1 = 43
            route = 1
            usage 23 4 false = 2
            # 1 and 10 against 1 and 9
            reroute 1 = 1
            usage 23 4 false = 1
            usage 22 4 false = 1
            usage 22 5 true = 2
            # 1 and 10 by either way: the row first
            reroute 1 = 1
            usage 23 4 false = 2
            usage 22 5 true = 1
            # 1 and 11 against 1 and 10
            reroute 1 = 1
            usage 23 4 false = 1
            usage 22 5 true = 2
            """;

    private static final String OVER_FULL_THEN = """
            addKind n 1 1 1 0 0 = 0
            addInput 3 = 0
            addCell 0 = 0
            addInput 0 = 2
            addCell 0 = 1
            connect 0 0 3 = -1
            connect 0 1 2 = -1
            connect 1 1 0 = -1
            place 0 1 2 false = -1
            place 1 1 1 false = -1
            setCapacity 2 2 = 43
            # 0, 2 and 3 go from the row 1 to the row 2 at 1
            route = 1
            usage 1 1 false = 3
            # the net 0 goes another way; as it has gone, the edge is not over full any more, and 2 stays though it has a history
            reroute 1 = 0
            usage 1 1 false = 2
            usage 0 1 true = 1
            usage 0 0 true = 1
            usage 1 0 false = 1
            usage 0 2 true = 0
            # also as long as other edges are over full
            addInput 5 = 4
            addInput 5 = 5
            addInput 5 = 6
            addOutput 4 5 = 0
            addOutput 5 5 = 1
            addOutput 6 5 = 2
            route = 24
            reroute 1 = 23
            usage 1 1 false = 2
            usage 0 0 true = 1
            usage 0 2 true = 0
            """;

    private static final String ACROSS_AND_DOWN = """
            addKind b 1 1 1 0 0 = 0
            addKind d 1 1 1 0 0 = 1
            addCell 0 = 0
            addCell 0 = 1
            addCell 1 = 2
            addCell 1 = 3
            connect 2 0 0 = -1
            connect 3 0 1 = -1
            # the net 0 from 2 in the row 0 to 6 in the row 1, the net 1 from 3 to 7 in the row 0
            place 0 2 0 false = -1
            place 2 6 1 false = -1
            place 1 3 0 false = -1
            place 3 7 0 false = -1
            setCapacity 1 9 = 43
            route = 3
            reroute 1 = 0
            usage 4 0 true = 1
            usage 4 1 true = 1
            setCapacity 2 1 = 19
            route = 0
            usage 4 0 true = 2
            reroute 1 = 0
            usage 4 0 true = 2
            new
            addKind b 1 1 1 0 0 = 0
            addKind d 1 1 1 0 0 = 1
            addCell 0 = 0
            addCell 0 = 1
            addCell 1 = 2
            addCell 1 = 3
            connect 2 0 0 = -1
            connect 3 0 1 = -1
            # the net 0 from 3 to 7 in the row 0 first, the net 1 from 2 in the row 0 to 6 in the row 1
            place 0 3 0 false = -1
            place 2 7 0 false = -1
            place 1 2 0 false = -1
            place 3 6 1 false = -1
            setCapacity 1 2 = 43
            route = 0
            usage 4 0 true = 1
            usage 4 1 true = 1
            setCapacity 2 1 = 12
            route = 0
            usage 4 0 true = 2
            usage 4 1 true = 0
            new
            addKind b 1 1 1 0 0 = 0
            addKind d 1 1 1 0 0 = 1
            addCell 0 = 0
            addCell 0 = 1
            addCell 1 = 2
            addCell 1 = 3
            connect 2 0 0 = -1
            connect 3 0 1 = -1
            # the net 0 from the row 1 to the row 4 at 6 first, the net 1 from 2 in the row 0 to 6 in the row 3
            place 0 6 1 false = -1
            place 2 6 4 false = -1
            place 1 2 0 false = -1
            place 3 6 3 false = -1
            setCapacity 2 1 = 43
            route = 0
            usage 4 0 true = 0
            usage 4 3 true = 1
            usage 6 2 false = 1
            setCapacity 1 2 = 21
            route = 0
            usage 4 0 true = 1
            usage 6 2 false = 2
            """;

    private static final String IN_TREE = """
            addKind d 1 1 1 1 1 = 0
            addInput 0 = 0
            addCell 0 = 0
            addCell 0 = 1
            connect 0 0 0 = -1
            connect 1 0 0 = -1
            place 0 9 0 false = -1
            place 1 4 0 false = -1
            # what is in the tree is no edge more
            route = 0
            routed 0 = 9
            usage 2 0 true = 1
            place 1 9 0 false = UnsupportedOperationException
            place 1 8 3 false = 4
            route = 0
            routed 0 = 12
            """;

    private static final String ENDS = """
            addInput 0 = 0
            addInput 0 = 1
            addOutput 0 1 = 0
            addOutput 1 0 = 1
            setCapacity 1 1 = 43
            route = 23
            reroute 9 = 0
            usage 0 0 false = 1
            usage 4 1 true = 1
            # nothing is over full: no round, and no history, makes the net 0 go back
            reroute 9 = 0
            usage 0 0 false = 1
            usage 4 1 true = 1
            routed 0 = 24
            """;

    private static final String BREAK = """
            addKind d 1 1 1 1 1 = 0
            addInput 0 = 0
            addCell 0 = 0
            addCell 0 = 1
            connect 0 0 0 = -1
            connect 1 0 0 = -1
            place 0 4 0 false = -1
            place 1 8 0 false = -1
            route = 0
            detail 1 = 0
            # to 4 and from there on to 8 is one shape
            shapes = 1
            shapeAt 0 a = 0
            shapeAt 0 z = 8
            place 0 4 2 false = 4
            place 1 8 2 false = 8
            route = 0
            detail 1 = 0
            # to 4, down, and on: along the row 0, the row 2 and the site 4
            shapes = 3
            shapeAt 0 z = 4
            shapeAt 1 a = 4
            shapeAt 1 z = 8
            shapeAt 2 l = 1
            shapeAt 2 a = 0
            shapeAt 2 z = 2
            """;

    private static final String TRACK_GAP = """
            addKind b 1 1 1 1 1 = 0
            addInput 0 = 0
            addCell 0 = 0
            addCell 0 = 1
            connect 0 0 0 = -1
            connect 1 0 1 = -1
            place 0 3 0 true = -1
            place 1 9 0 false = -1
            route = 0
            detail 1 = 0
            # one ends at 3 where the other one begins: no gap at all
            shapeAt 0 t = 0
            shapeAt 1 t = 1
            new
            addKind b 4 1 1 1 1 = 0
            addInput 0 = 0
            addCell 0 = 0
            addCell 0 = 1
            connect 0 0 0 = -1
            connect 1 0 1 = -1
            place 0 3 0 false = -1
            place 1 9 0 false = -1
            route = 0
            # from 0 to 3, and from 6 to 9
            detail 3 = 0
            shapeAt 1 t = 0
            detail 4 = 0
            shapeAt 1 t = 1
            setCapacity 1 3 = 43
            route = 0
            detail 3 = 0
            detail 4 = 1
            shapes = 1
            """;

    private static final String MASK = """
            addInput 0 = 0
            setCapacity 9 9 = 43
            addShape 0 0 0 0 1 0 = 0
            addShape 0 0 1 0 1 0 = 1
            addShape 0 0 2 0 1 0 = 2
            addShape 1 0 7 0 1 0 = 3
            addShape 1 0 8 0 1 0 = 4
            shapeAt 0 m = 0
            shapeAt 1 m = 1
            shapeAt 2 m = 0
            shapeAt 3 m = 1
            shapeAt 4 m = 0
            """;

    private static final String RULE_GAP = """
            addInput 0 = 0
            addInput 1 = 1
            addShape 0 0 0 0 5 0 = 0
            addShape 0 0 0 6 9 1 = 1
            # 1 at first
            breaches s = 0
            removeShape 1 = 1
            addShape 0 0 0 5 9 1 = 1
            breaches s = 1
            breachesAnew = 1
            route = 0
            detail 4 = 0
            addShape 0 0 0 0 5 0 = 0
            addShape 0 0 0 9 12 1 = 1
            breaches s = 0
            breachesAnew = 0
            addShape 0 0 0 15 18 0 = 2
            breaches s = 1
            breachesAnew = 1
            # added later, but ahead of the others
            setCapacity 4 3 = 43
            addShape 0 0 0 9 12 1 = 0
            addShape 0 0 0 0 5 0 = 1
            breaches s = 0
            breachesAnew = 0
            addShape 0 0 0 0 6 0 = 2
            breaches s = 1
            breachesAnew = 1
            """;

    private static final String SHORTER = """
            addInput 0 = 0
            addShape 0 0 0 0 8 0 = 0
            addShape 0 0 0 0 9 0 = 1
            addShape 0 0 0 0 1 0 = 2
            addShape 1 0 0 4 5 0 = 3
            breaches a = 0
            setRules 2 0 100 99 = 1
            breaches a = 2
            setRules 8 0 100 99 = 2
            breaches a = 2
            setRules 9 0 100 99 = 8
            breaches a = 3
            """;

    private static final String WINDOWS = """
            addInput 0 = 0
            setCapacity 1 1 = 43
            setRules 1 1 100 99 = 1
            breaches d = 3
            # a step that begins at 7 is of the first window, at 8 of the second one, at 16 of the third one
            addShape 0 0 0 7 8 0 = 0
            breaches d = 2
            addShape 0 0 0 8 9 0 = 1
            breaches d = 1
            removeShape 1 = 0
            addShape 0 0 0 15 16 0 = 1
            breaches d = 1
            addShape 0 0 0 16 17 0 = 2
            breaches d = 0
            removeShape 2 = 0
            addShape 0 0 0 22 23 0 = 2
            breaches d = 0
            removeShape 0 = 0
            addShape 0 0 0 0 1 0 = 2
            breaches d = 0
            """;

    private static final String BOUNDS = """
            addInput 0 = 0
            setCapacity 1 1 = 43
            addShape 0 0 0 0 23 0 = 0
            addShape 0 1 0 8 9 0 = 1
            addShape 0 2 0 16 18 0 = 2
            # 8, 9 and 9 of 48: 16, 18 and 18 hundredths, cut
            setRules 1 16 18 99 = 1
            breaches d = 0
            setRules 1 17 18 99 = 1
            breaches d = 1
            setRules 1 16 17 99 = 1
            breaches d = 2
            setRules 1 17 17 99 = 1
            breaches d = 3
            setRules 1 18 18 99 = 1
            breaches d = 1
            setRules 1 19 100 99 = 1
            breaches d = 3
            # 12 of 48 are 25
            addShape 0 3 0 12 15 0 = 3
            setRules 1 25 100 99 = 1
            breaches d = 2
            setRules 1 26 100 99 = 1
            breaches d = 3
            """;

    private static final String FIRST_RULES = """
            addKind b 1 1 1 1 1 = 0
            addInput 0 = 0
            addCell 0 = 0
            connect 0 0 0 = -1
            # 99 steps for one input, not more
            addShape 0 0 0 0 23 0 = 0
            addShape 0 0 1 0 23 0 = 1
            addShape 0 0 2 0 23 0 = 2
            addShape 0 0 3 0 23 0 = 3
            addShape 0 1 0 0 7 0 = 4
            breaches t = 0
            addShape 0 1 0 7 8 0 = 5
            breaches t = 1
            setCapacity 1 1 = 43
            addShape 0 0 0 0 8 0 = 0
            addShape 0 0 0 0 8 0 = 1
            addShape 0 0 0 0 8 0 = 2
            addShape 0 0 0 0 8 0 = 3
            addShape 0 0 0 0 8 0 = 4
            addShape 0 0 0 0 8 0 = 5
            # 48 of 48 are 100, of 240 they are 20
            breaches d = 0
            setRules 1 0 99 99 = 1
            breaches d = 1
            setRules 1 0 100 99 = 1
            addShape 0 0 0 0 1 0 = 6
            breaches d = 1
            """;

    private static final String FIRST_FILL = """
            addInput 0 = 0
            addShape 0 0 0 0 8 0 = 0
            addShape 0 1 0 0 8 0 = 1
            addShape 0 2 0 0 8 0 = 2
            addShape 0 3 0 0 8 0 = 3
            addShape 0 4 0 0 8 0 = 4
            addShape 0 5 0 0 8 0 = 5
            addShape 0 0 1 0 8 0 = 6
            addShape 0 1 1 0 8 0 = 7
            addShape 0 2 1 0 8 0 = 8
            addShape 0 3 1 0 8 0 = 9
            addShape 0 4 1 0 8 0 = 10
            addShape 0 5 1 0 8 0 = 11
            addShape 0 0 2 0 8 0 = 12
            addShape 0 1 2 0 8 0 = 13
            addShape 0 2 2 0 8 0 = 14
            addShape 0 3 2 0 8 0 = 15
            addShape 0 4 2 0 8 0 = 16
            addShape 0 5 2 0 8 0 = 17
            addShape 0 0 3 0 8 0 = 18
            addShape 0 1 3 0 8 0 = 19
            addShape 0 2 3 0 8 0 = 20
            addShape 0 3 3 0 8 0 = 21
            addShape 0 4 3 0 8 0 = 22
            addShape 0 5 3 0 8 0 = 23
            # 192 of 192
            breaches d = 0
            addShape 0 0 0 0 1 0 = 24
            # 100, cut
            breaches d = 0
            addShape 0 0 0 0 1 0 = 25
            # 101
            breaches d = 1
            """;

    private static final String ANTENNA = """
            addKind n 1 1 1 1 1 = 0
            addInput 0 = 0
            addCell 0 = 0
            connect 0 0 0 = -1
            addShape 0 0 0 5 15 0 = 0
            # 10 is far less than told at first, less than 11, not greater than 10
            breaches t = 0
            setRules 1 0 100 11 = 1
            breaches t = 0
            setRules 1 0 100 10 = 1
            breaches t = 0
            setRules 1 0 100 9 = 1
            breaches t = 1
            connect 0 1 0 = -1
            addShape 0 0 0 0 19 0 = 0
            # 9 for each one, cut
            breaches t = 0
            addShape 0 1 0 0 1 0 = 1
            breaches t = 1
            # a shape that is taken away counts no more
            removeShape 1 = 0
            breaches t = 0
            """;

    private static final String SHIFTER = """
            addKind b 1 1 1 1 1 = 0
            addKind l 1 1 1 1 1 = 1
            addKind f 1 1 1 1 1 = 2
            addInput 0 = 0
            addCell 0 = 0
            addCell 1 = 1
            addCell 2 = 2
            connect 1 0 1 = -1
            connect 0 0 0 = -1
            connect 2 0 3 = -1
            setDomain 0 1 = 0
            # into a shifter, and from an input of the chip
            breaches l = 0
            connect 2 0 1 = 3
            breaches l = 1
            setDomain 2 1 = 0
            breaches l = 0
            connect 2 0 2 = 1
            # out of a shifter
            breaches l = 1
            setDomain 1 1 = 0
            breaches l = 0
            # at an input of the cell 0
            connect 0 0 3 = 0
            breaches l = 0
            setDomain 0 0 = 1
            breaches l = 1
            """;

    private static final String BESIDE = """
            addInput 0 = 0
            addInput 1 = 1
            addShape 0 0 1 4 9 0 = 0
            addShape 0 0 2 0 4 1 = 1
            coupling 0 1 = 0
            addShape 0 0 2 0 5 1 = 2
            coupling 0 1 = 1
            addShape 0 0 0 8 23 1 = 3
            coupling 0 1 = 2
            addShape 0 0 0 9 23 1 = 4
            coupling 0 1 = 2
            addShape 0 0 3 0 23 1 = 5
            addShape 0 0 1 0 23 1 = 6
            coupling 0 1 = 2
            coupling 1 1 = 0
            """;

    private static final String HALF_SUM = """
            addInput 0 = 0
            addInput 1 = 1
            addInput 2 = 2
            addShape 0 0 1 0 9 0 = 0
            addShape 0 0 2 0 1 1 = 1
            delta 0 = 0
            addShape 0 0 2 1 2 2 = 2
            # 1 and 1, not half of each one
            delta 0 = 1
            delta 1 = 0
            addShape 0 0 0 0 1 1 = 3
            delta 0 = 1
            delta 1 = 1
            addShape 0 0 0 1 2 1 = 4
            delta 0 = 2
            """;

    private static final String MEET = """
            addKind i 1 9 1 1 5 = 0
            addInput 0 = 0
            addInput 1 = 1
            addInput 2 = 2
            addCell 0 = 0
            connect 0 0 0 = -1
            addShape 0 0 0 0 10 1 = 0
            addShape 0 0 1 0 10 3 = 1
            # 0 and 5 do not meet
            delta 1 = 0
            delta 3 = 0
            addShape 0 1 0 0 8 1 = 2
            addShape 0 1 1 0 8 2 = 3
            # 0 to 4 and 5 do not
            delta 1 = 4
            delta 3 = 0
            addShape 0 1 1 8 10 2 = 4
            addShape 0 1 0 8 10 1 = 5
            # 0 to 5 and 5 do
            delta 1 = 10
            delta 3 = 5
            """;

    private static final String DROP = """
            addKind d 1 1 1 1 1 = 0
            addKind d 1 9 1 1 1 = 1
            addCell 0 = 0
            addCell 1 = 1
            place 0 0 0 false = -1
            # 24 of 25, cut
            drop 0 = 0
            place 0 23 0 false = 0
            drop 0 = 0
            place 0 1 0 false = 23
            # 2 by 23
            drop 0 = 1
            place 1 0 0 false = -1
            # 46 and 9 by 1 by 23
            drop 0 = 10
            # 9 by 1 by 24 and 1 by 1 by 23
            drop 1 = 9
            place 1 23 0 false = 0
            # 46 and 9 by 2 by 1 are 64; 9 by 24 by 1 and 2 by 1 are 218
            drop 0 = 2
            drop 1 = 8
            place 1 0 1 false = 23
            drop 0 = 1
            drop 1 = 8
            # the site of a wide cell is its first one, mirrored or not
            addKind b 4 9 1 1 1 = 2
            addCell 2 = 2
            place 2 4 3 false = -1
            place 0 20 3 false = 1
            # 9 by 5 by 4 and 1 by 21 by 4; 9 by 5 by 20 and 1 by 5 by 4
            drop 0 = 10
            drop 2 = 36
            place 2 4 3 true = 76
            drop 0 = 10
            drop 2 = 36
            """;

    private static final String CHAIN = """
            addKind f 1 1 1 1 1 = 0
            addCell 0 = 0
            addCell 0 = 1
            addCell 0 = 2
            place 0 2 1 false = -1
            place 1 3 0 false = -1
            place 2 0 3 false = -1
            # all are 3 away from the beginning: the lowest number; then 1, 2 away
            scan = 8
            scanAt 0 = 0
            scanAt 1 = 1
            scanAt 2 = 2
            place 2 0 0 false = 72
            scan = 5
            scanAt 0 = 2
            scanAt 1 = 0
            scanAt 2 = 1
            """;

    private static final String LATCH = """
            addKind f 1 1 1 1 1 = 0
            addCell 0 = 0
            addCell 0 = 1
            place 0 0 0 false = -1
            place 1 9 0 false = -1
            scan = 9
            lockups = 0
            setSkew 1 1 = 0
            lockups = 1
            setSkew 0 1 = 0
            lockups = 0
            setSkew 0 2 = 1
            lockups = 0
            """;

    private static final String OWN_INPUT = """
            addKind f 1 1 1 1 1 = 0
            addCell 0 = 0
            addCell 0 = 1
            connect 0 0 0 = -1
            addOutput 0 0 = 0
            place 1 0 0 false = -1
            # the output alone: its own input is none of another cell
            change 0 1 = 1
            connect 1 0 0 = 1
            connect 0 0 0 = -1
            """;

    private static final String TOUCH = """
            addKind d 1 1 1 1 1 = 0
            addInput 0 = 0
            addOutput 0 0 = 0
            addShape 0 0 0 0 9 0 = 0
            addShape 0 0 0 9 23 0 = 1
            # the end is in common
            opens = 0
            removeShape 1 = 0
            addShape 0 0 0 10 23 0 = 1
            opens = 1
            addShape 0 0 1 9 10 0 = 2
            opens = 1
            # across, at the very ends of both
            addShape 1 9 0 0 1 0 = 3
            addShape 0 1 0 9 10 0 = 4
            opens = 1
            addShape 1 10 0 0 1 0 = 5
            opens = 0
            removeShape 5 = 0
            addShape 1 10 0 1 2 0 = 5
            opens = 1
            addShape 1 11 0 0 1 0 = 6
            opens = 1
            addShape 0 1 0 10 11 0 = 7
            opens = 0
            """;

    private static final String PIN_SHAPE = """
            addKind d 1 1 1 1 1 = 0
            addInput 1 = 0
            addCell 0 = 0
            connect 0 0 0 = -1
            place 0 6 1 false = -1
            addShape 0 1 3 0 5 0 = 0
            opens = 1
            addShape 0 1 3 5 6 0 = 1
            opens = 0
            removeShape 1 = 0
            removeShape 0 = 0
            addShape 0 1 3 1 6 0 = 0
            opens = 1
            # the end of a shape of a site
            addShape 1 0 0 0 1 0 = 1
            opens = 1
            addShape 0 0 0 0 1 0 = 2
            addShape 1 1 0 0 1 0 = 3
            opens = 0
            """;

    private static final String TWO_PLACES = """
            addKind d 1 1 1 1 1 = 0
            addInput 1 = 0
            addCell 0 = 0
            connect 0 0 0 = -1
            opens = 0
            place 0 0 1 false = -1
            opens = 0
            place 0 0 2 false = 24
            opens = 1
            """;

    private static final String SHORT = """
            addInput 0 = 0
            addInput 1 = 1
            addShape 0 0 0 0 9 0 = 0
            addShape 0 0 0 10 12 1 = 1
            shorts = 0
            addShape 0 0 0 9 10 1 = 2
            shorts = 1
            removeShape 2 = 1
            addShape 0 0 1 0 9 1 = 2
            addShape 0 1 0 0 9 1 = 3
            addShape 1 0 0 0 5 1 = 4
            shorts = 0
            isAsDrawn = true
            addShape 0 0 0 0 1 1 = 5
            isAsDrawn = false
            """;
}
