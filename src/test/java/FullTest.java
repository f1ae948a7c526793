import java.math.BigInteger;

/** Everything full, the most of everything at once, and numbers that wrap round. */
public final class FullTest {
    private FullTest() {
    }

    public static void main(String[] args) {
        Script.runAll("2 12 kinds", times(12, "addKind b 1 1 1 1 1 = %d\n") + KINDS,
                "3 18 cells", "addKind b 1 1 1 9 1\n" + times(18, "addCell 0 = %d\n") + CELLS,
                "3 18 cells that drive nothing", "addKind d 1 1 1 9 1\n" + times(18, "addCell 0 = %d\n") + DIODES,
                "4 6 inputs", times(6, "addInput 3 = %d\n") + INPUTS,
                "5 6 outputs", "addInput 0\n" + times(6, "addOutput 0 5 = %d\n") + OUTPUTS,
                "61 24 nets", NETS, "10 a row that is blocked", BLOCKED_ROW, "10 all sites blocked", BLOCKED,
                "11 a row that is taken", TAKEN_ROW, "14 a row that is taken, to the last site", LEGAL_ROW,
                "14 all cells at one site", ALL_AT_ONE,
                "22 the most load and delay", mostLoad(), "22 the longest path", longestPath(),
                "27 the most paths", mostPaths(), "54 the last input of the last cell", lastInput(), "28 from 17 cells on", lastBuffer(), "28 six sinks", SIX_SINKS,
                "30 18 flip-flops in the tree", mostFlops() + TREE, "51 18 flip-flops in the chain", mostFlops() + SCAN,
                "35 edges full, and over full", FULL_EDGES, "39 tracks full", FULL_TRACKS,
                "42 200 shapes", mostShapes() + SHAPES,
                "56 a way of 143 shapes", longestWay(), "9 bits beyond those that there are", BITS,
                "10 the halo does not wrap round into other rows", HALO,
                "11 no cell wraps round into the next row", NO_WRAP_OF_CELLS,
                "38 no edge wraps round into the next row", NO_WRAP_OF_EDGES,
                "512 calls", times(510, "setPeriod 100 = 100\n") + LAST_CALLS);
        wrapsRound();
    }

    /** A line again and again, with numbers from 0 on. */
    private static String times(int count, String line) {
        StringBuilder text = new StringBuilder();
        for (int number = 0; number < count; number++) {
            text.append(line.replace("%d", "" + number));
        }
        return text.toString();
    }

    private static final String KINDS = """
            addKind b 1 1 1 1 1 = IllegalStateException
            addCell 12 = IndexOutOfBoundsException
            addCell 11 = 0
            setKind 0 0 = 11
            setKind 0 11 = 0
            setKind 0 12 = IndexOutOfBoundsException
            addInput 0 = 1
            connect 0 0 1 = -1
            buffer 1 11 5 5 = 9999
            """;

    private static final String CELLS = """
            addCell 0 = IllegalStateException
            cellCount = 18
            netCount = 18
            leakage = 162
            netOf 17 = 17
            netOf 18 = IndexOutOfBoundsException
            connect 17 0 16 = -1
            place 17 23 5 false = -1
            placeOf 17 = 143
            buffer 16 0 0 0 = IllegalStateException
            addInput 0 = 18
            save = 162
            """;

    private static final String DIODES = """
            addCell 0 = IllegalStateException
            netCount = 0
            netOf 17 = NoSuchElementException
            leakage = 162
            addInput 0 = 0
            """;

    private static final String INPUTS = """
            addInput 3 = IllegalStateException
            netCount = 6
            value 5 32 0 = 1
            value 5 31 0 = 0
            addKind b 1 1 1 1 1 = 0
            addCell 0 = 0
            netOf 0 = 6
            """;

    private static final String OUTPUTS = """
            addOutput 0 5 = IllegalStateException
            slackOut 5 1 = 100
            slackOut 6 1 = IndexOutOfBoundsException
            length 0 = 28
            """;

    private static final String NETS = "addKind f 1 1 1 1 1\n" + times(6, "addInput 0 = %d\n")
            + times(18, "addCell 0 = %d\n") + """
            netCount = 24
            netOf 17 = 23
            addCell 0 = IllegalStateException
            addInput 0 = IllegalStateException
            late 23 1 = 1
            late 24 1 = IndexOutOfBoundsException
            length 23 = 0
            length 24 = IndexOutOfBoundsException
            connect 17 0 23 = -1
            connect 17 0 24 = IndexOutOfBoundsException
            addOutput 23 5 = 0
            addOutput 24 5 = IndexOutOfBoundsException
            addShape 0 5 0 0 1 23 = 0
            addShape 0 5 1 0 1 22 = 1
            addShape 0 5 1 0 1 24 = IndexOutOfBoundsException
            coupling 22 23 = 1
            delta 23 = 0
            # an input of 1 and an output of 2
            early 23 1 = 7
            slack 17 1 false = 91
            slack 17 1 true = 6
            worst 1 = 91
            value 23 0 131072 = 1
            meanLength = 0.0
            """;

    private static final String BLOCKED_ROW = """
            addKind b 1 1 1 1 1 = 0
            addCell 0 = 0
            block 0 2 24 3 = 24
            block 0 2 24 0 = 24
            place 0 0 2 false = UnsupportedOperationException
            place 0 23 2 false = UnsupportedOperationException
            place 0 23 1 false = -1
            place 0 0 3 false = 47
            wish 0 5 2 = -1
            legalize 2 = UnsupportedOperationException
            """;

    private static final String BLOCKED = """
            addKind b 1 1 1 1 1 = 0
            addInput 0 = 0
            addInput 5 = 1
            addCell 0 = 0
            addCell 0 = 1
            connect 0 0 0 = -1
            connect 1 0 1 = -1
            place 0 9 5 false = -1
            place 1 9 0 false = -1
            wish 0 3 3 = -1
            block 0 0 24 0 = 24
            block 0 1 24 0 = 24
            block 0 2 24 0 = 24
            block 0 3 24 0 = 24
            block 0 4 24 0 = 24
            fill = 0.041666668
            block 0 5 24 0 = 24
            fill = ArithmeticException
            # what stands there stays, but cannot be placed there again
            placeOf 0 = 129
            place 0 9 5 false = UnsupportedOperationException
            place 1 0 0 false = UnsupportedOperationException
            legalize 3 = UnsupportedOperationException
            legalize 5 = 0
            buffer 0 0 0 0 = UnsupportedOperationException
            # wires and exchanges go over blocked sites
            route = 0
            detail 1 = 0
            isAsDrawn = true
            improve = 1
            placeOf 0 = 9
            block 23 5 1 0 = 24
            """;

    private static final String TAKEN_ROW = """
            addKind b 4 1 1 1 1 = 0
            addKind b 1 1 1 1 1 = 1
            addCell 0 = 0
            addCell 0 = 1
            addCell 0 = 2
            addCell 0 = 3
            addCell 0 = 4
            addCell 0 = 5
            addCell 1 = 6
            place 0 0 0 false = -1
            place 1 4 0 false = -1
            place 2 8 0 false = -1
            place 3 12 0 false = -1
            place 4 16 0 false = -1
            place 6 23 0 false = -1
            place 5 20 0 false = UnsupportedOperationException
            place 6 0 0 false = UnsupportedOperationException
            place 6 3 0 false = UnsupportedOperationException
            place 6 4 0 false = UnsupportedOperationException
            place 6 0 1 false = 23
            place 5 20 0 false = -1
            place 6 23 0 false = UnsupportedOperationException
            fill = 0.1736111
            isSound = true
            """;

    private static final String LEGAL_ROW = """
            addKind b 4 1 1 1 1 = 0
            addKind b 1 1 1 1 1 = 1
            addCell 0 = 0
            addCell 0 = 1
            addCell 0 = 2
            addCell 0 = 3
            addCell 0 = 4
            addCell 0 = 5
            addCell 1 = 6
            wish 0 10 2 = -1
            wish 1 10 2 = -1
            wish 2 10 2 = -1
            wish 3 10 2 = -1
            wish 4 10 2 = -1
            wish 5 10 2 = -1
            legalize 2 = 36
            placeOf 0 = 48
            placeOf 5 = 68
            wish 6 0 2 = -1
            # 25 sites are too many
            legalize 2 = UnsupportedOperationException
            wish 5 0 1 = 58
            # the last one stands there still, but is not of the row: 21 sites, of which 20 are left
            legalize 2 = UnsupportedOperationException
            legalize 1 = 0
            legalize 2 = 24
            placeOf 6 = 48
            placeOf 4 = 66
            # to the last site that is not blocked
            block 21 2 3 0 = 3
            legalize 2 = 25
            placeOf 4 = 65
            block 20 2 1 0 = 4
            legalize 2 = UnsupportedOperationException
            """;

    private static final String ALL_AT_ONE = "addKind b 1 1 1 1 1\n" + times(18, "addCell 0 = %d\n")
            + times(18, "wish %d 23 5 = -1\n") + """
            legalize 5 = 153
            placeOf 0 = 126
            placeOf 1 = 127
            placeOf 17 = 143
            """ + times(18, "wish %d 0 0 = 143\n") + """
            legalize 5 = 0
            legalize 0 = 153
            placeOf 0 = 0
            placeOf 17 = 17
            block 17 0 7 0 = 7
            legalize 0 = UnsupportedOperationException
            block 0 1 1 0 = 1
            placeOf 17 = 17
            fill = 0.125
            """;

    private static final String SIX_SINKS = """
            addKind b 1 1 1 1 1 = 0
            addInput 0 = 0
            addCell 0 = 0
            addOutput 0 0 = 0
            addOutput 0 1 = 1
            addOutput 0 2 = 2
            addOutput 0 3 = 3
            addOutput 0 4 = 4
            addOutput 0 5 = 5
            connect 0 0 0 = -1
            buffer 0 0 0 0 = UnsupportedOperationException
            addInput 0 = 2
            connect 0 0 2 = 0
            # the nearest output is behind it: a load of 2 and 11
            buffer 0 0 0 0 = 70
            slackOut 0 1 = 70
            slackOut 5 1 = 100
            """;

    private static final String TREE = """
            # nine pairs of 2; four of these, 8; the last one and 13, 3; 1 and 5, 4; 9 and 14, 7; 3 and 11, 10
            tree = 50
            latency 0 = 1
            latency 17 = 18
            common 0 0 = 10
            common 0 1 = 9
            common 0 17 = 0
            common 12 17 = 7
            # again and again
            tree = 50
            tree = 50
            latency 0 = 1
            """;

    private static final String SCAN = """
            scan = 17
            scanAt 0 = 0
            scanAt 17 = 17
            scanAt 18 = NoSuchElementException
            lockups = 17
            setSkew 17 -1 = 8
            lockups = 16
            """;

    private static final String FULL_EDGES = times(6, "addInput 2 = %d\n") + times(6, "addOutput %d 2 = %d\n") + """
            setCapacity 6 1 = 43
            route = 0
            usage 0 2 true = 6
            usage 22 2 true = 6
            setCapacity 5 1 = 61
            route = 23
            setCapacity 1 1 = 51
            route = 115
            # there is no other way along the row itself
            reroute 9 = 115
            """;

    private static final String FULL_TRACKS = times(6, "addInput 2 = %d\n") + times(6, "addOutput %d 2 = %d\n") + """
            setCapacity 6 1 = 43
            route = 0
            detail 4 = 0
            shapes = 6
            shapeAt 5 t = 5
            shapeAt 5 m = 1
            shapeAt 5 n = 5
            shapeAt 4 m = 0
            setCapacity 5 1 = 61
            route = 23
            detail 1 = 1
            shapes = 5
            setCapacity 1 1 = 51
            route = 115
            detail 1 = 5
            shapes = 1
            shapeAt 0 n = 0
            """;

    private static final String SHAPES = """
            shapes = 200
            addShape 0 0 0 0 1 0 = IllegalStateException
            # 100 of each net on one track: all pairs of unlike ones
            breaches s = 10000
            breachesAnew = 10000
            shorts = 1
            coupling 0 1 = 0
            # more than 100 hundredths in each window
            breaches d = 3
            shapeAt 199 n = 1
            shapeAt 200 n = IndexOutOfBoundsException
            isSound = true
            removeShape 0 = 0
            breaches s = 9900
            shapeAt 198 n = 1
            shapeAt 199 n = IndexOutOfBoundsException
            addShape 0 0 1 0 23 0 = 199
            coupling 0 1 = 2300
            delta 0 = 1150
            slackOut 0 1 = -1050
            worst 1 = -1050
            worstAnew 1 = -1050
            addShape 0 0 1 0 23 0 = IllegalStateException
            removeShape 199 = 0
            addShape 1 0 0 0 1 0 = 199
            # all are gone as wires are laid
            route = 0
            detail 1 = 0
            shapes = 1
            """;

    private static final String BITS = "addKind f 1 1 1 1 1\n" + times(6, "addInput 0 = %d\n")
            + times(18, "addCell 0 = %d\n") + """
            value 0 1 0 = 1
            value 0 -2 -1 = 0
            value 5 32 0 = 1
            value 5 -33 -1 = 0
            value 5 2147483647 0 = 1
            value 5 -2147483648 0 = 0
            value 6 0 1 = 1
            value 6 -1 -2 = 0
            value 23 0 131072 = 1
            value 23 -1 -131073 = 0
            value 23 0 2147483647 = 1
            value 23 0 -2147483648 = 0
            value 0 64 0 = 0
            value 6 0 262144 = 0
            """;

    private static final String HALO = """
            addKind b 3 1 1 1 1 = 0
            addCell 0 = 0
            block 23 1 1 3 = 4
            block 0 3 1 3 = 4
            # the first sites of the row 2, and its last ones, are free
            place 0 0 2 false = -1
            place 0 21 2 false = 48
            block 12 2 1 3 = 7
            place 0 6 2 false = 69
            place 0 7 2 false = UnsupportedOperationException
            place 0 15 2 false = UnsupportedOperationException
            place 0 16 2 false = 54
            # nor is there a row behind the last one, or ahead of the first one
            block 23 5 1 3 = 4
            block 0 0 1 3 = 4
            fill = 0.024793388
            """;

    private static final String NO_WRAP_OF_CELLS = """
            addKind b 2 1 1 1 1 = 0
            addCell 0 = 0
            addCell 0 = 1
            connect 1 0 0 = -1
            place 0 23 0 false = UnsupportedOperationException
            place 0 23 5 false = UnsupportedOperationException
            place 0 22 0 false = -1
            place 1 0 1 false = -1
            # the last site of one row and the first one of the next one are far apart
            length 0 = 24
            drop 0 = 1
            drop 1 = 0
            isSound = true
            route = 0
            routed 0 = 24
            detail 1 = 0
            isAsDrawn = true
            addShape 0 0 1 22 23 1 = 2
            addShape 0 1 1 0 1 1 = 3
            breaches s = 0
            """;

    private static final String NO_WRAP_OF_EDGES = """
            addInput 1 = 0
            addOutput 0 0 = 0
            route = 0
            routed 0 = 24
            usage 22 1 true = 1
            usage 23 0 true = IllegalArgumentException
            usage 23 1 true = IllegalArgumentException
            usage 23 5 true = IllegalArgumentException
            usage 23 0 false = 1
            usage 23 5 false = IllegalArgumentException
            usage 0 5 false = IllegalArgumentException
            # a shape to the end of a row has no place in common with one from the beginning of the next one
            detail 1 = 0
            removeShape 1 = 0
            opens = 1
            addShape 0 0 0 22 23 0 = 1
            opens = 1
            addShape 1 23 0 0 1 0 = 2
            opens = 0
            """;

    private static final String LAST_CALLS = """
            setPeriod 999 = 100
            setPeriod 1 = 999
            """;

    /** A net with 35 inputs and six outputs. */
    private static String mostLoad() {
        StringBuilder text = new StringBuilder("addKind f 1 1 9 1 99\naddKind n 1 1 9 1 99\naddCell 0\nconnect 0 0 0\n");
        for (int cell = 1; cell < 18; cell++) {
            text.append("addCell 1\nconnect ").append(cell).append(" 0 0\nconnect ").append(cell).append(" 1 0\n");
        }
        return text + times(6, "addOutput 0 0 = %d\n") + """
                # a load of 315 and 12: 16 and 319 of 24 parts of 64 are 866, and 99
                late 0 0 = 772
                late 0 1 = 965
                late 0 2 = 1158
                early 0 2 = 1158
                slack 0 2 false = -1060
                slack 0 2 true = 1157
                slackOut 5 2 = -1058
                buffer 0 0 0 0 = UnsupportedOperationException
                setCycles 0 4 = 1
                setPeriod 999 = 100
                slack 0 0 false = 3222
                """;
    }

    /** 18 inverters, one behind the other. */
    private static String longestPath() {
        StringBuilder text = new StringBuilder("addKind i 1 1 9 1 99\naddCell 0\n");
        for (int cell = 1; cell < 18; cell++) {
            text.append("addCell 0\nconnect ").append(cell - 1).append(" 0 ").append(cell).append('\n');
        }
        return text + """
                addInput 0 = 18
                connect 17 0 18 = -1
                addOutput 0 0 = 0
                # 17 by 117 and 103
                late 0 1 = 2092
                early 0 1 = 2092
                slackOut 0 1 = -1992
                setDerate 50 = 0
                # 17 by 175 and 154, each cut
                late 0 1 = 3129
                early 0 1 = 2092
                worst 1 = -3029
                worstAnew 1 = -3029
                # 17 by 210 and 184
                worst 2 = -3654
                worstAnew 2 = -3654
                value 0 1 0 = 1
                connect 17 0 0 = UnsupportedOperationException
                """;
    }

    /** Two gates on each of nine levels, and both drive both of the next one. */
    private static String mostPaths() {
        StringBuilder text = new StringBuilder("addKind x 1 9 1 1 10\n").append(times(18, "addCell 0 = %d\n"));
        text.append("addInput 0 = 18\naddInput 0 = 19\n");
        for (int cell = 0; cell < 18; cell++) {
            int first = cell < 2 ? 18 : cell / 2 * 2 - 2;
            text.append("connect ").append(cell).append(" 0 ").append(first).append('\n');
            text.append("connect ").append(cell).append(" 1 ").append(first + 1).append('\n');
        }
        return text + """
                addOutput 16 0 = 0
                addOutput 17 5 = 1
                late 16 1 = 90
                worst 1 = 10
                worstAnew 1 = 10
                setFalse 16 true = false
                worstAnew 1 = 10
                setFalse 17 true = false
                worstAnew 1 = 9999
                isSound = true
                """;
    }

    private static String lastInput() {
        return "addKind n 1 9 1 1 1\naddKind n 1 9 1 1 1\n" + times(18, "addCell 0 = %d\n") + """
                connect 17 1 3 = -1
                connect 17 0 3 = -1
                addOutput 3 0 = 0
                addOutput 2 0 = 1
                place 5 5 5 false = -1
                change 3 5 = 3
                connect 17 0 5 = 5
                connect 17 1 3 = 5
                """;
    }

    private static String lastBuffer() {
        return "addKind b 1 9 1 1 1\naddInput 0\naddOutput 0 0\n" + times(17, "addCell 0 = %d\n") + """
                buffer 0 0 0 0 = 97
                cellCount = 18
                netOf 17 = 18
                buffer 0 0 1 0 = IllegalStateException
                """;
    }

    /** 18 flip-flops at the sites 0 to 17 of the row 0, each one's clock later than that of the one ahead of it. */
    private static String mostFlops() {
        StringBuilder text = new StringBuilder("addKind f 1 1 1 1 1\n").append(times(18, "addCell 0 = %d\n"));
        for (int cell = 0; cell < 18; cell++) {
            text.append("place ").append(cell).append(' ').append(cell).append(" 0 false = -1\n");
            text.append("setSkew ").append(cell).append(' ').append(cell - 9).append(" = 0\n");
        }
        return text.toString();
    }

    private static String mostShapes() {
        StringBuilder text = new StringBuilder("addInput 0\naddInput 1\naddOutput 0 0\n");
        for (int shape = 0; shape < 200; shape++) {
            text.append("addShape 0 0 0 0 23 ").append(shape % 2).append(" = ").append(shape).append('\n');
        }
        return text.toString();
    }

    /** To and fro along all rows, by shapes of one step, from the first place to the beginning of the last row. */
    private static String longestWay() {
        StringBuilder text = new StringBuilder("addKind d 1 1 1 1 1\naddInput 0\naddCell 0\nconnect 0 0 0\nplace 0 0 5 false\n");
        for (int row = 0; row < 6; row++) {
            for (int step = 0; step < 23; step++) {
                int x = row % 2 == 0 ? step : 22 - step;
                text.append("addShape 0 ").append(row).append(" 1 ").append(x).append(' ').append(x + 1).append(" 0\n");
            }
            if (row < 5) {
                text.append("addShape 1 ").append(row % 2 == 0 ? 23 : 0).append(" 2 ").append(row).append(' ')
                        .append(row + 1).append(" 0\n");
            }
        }
        return text + """
                shapes = 143
                opens = 0
                isAsDrawn = true
                removeShape 142 = 0
                opens = 1
                addShape 0 5 1 0 1 0 = 142
                opens = 0
                removeShape 71 = 0
                opens = 1
                """;
    }

    /** The sum over 18 cells and 200 shapes is a long that wraps round. */
    private static void wrapsRound() {
        CellrowWorks chip = new CellrowWorks();
        BigInteger sum = BigInteger.valueOf(5);
        chip.addKind('f', 1, 1, 1, 1, 1);
        for (int cell = 0; cell < 18; cell++) {
            chip.addCell(0);
            if (cell % 3 == 0) {
                chip.place(cell, cell, cell / 3, false);
            }
            sum = sum.multiply(BigInteger.valueOf(31)).add(BigInteger.valueOf(cell % 3 == 0 ? 8 * cell + cell : -1));
        }
        check(chip.checksum(), sum);
        for (int shape = 0; shape < 200; shape++) {
            int line = shape % 24;
            int track = shape % 3;
            int net = shape % 18;
            chip.addShape(1, line, track, 0, 5, net);
            sum = sum.multiply(BigInteger.valueOf(31)).add(BigInteger.valueOf(line + 7 * track + net));
            check(chip.checksum(), sum);
        }
    }

    private static void check(long answer, BigInteger sum) {
        if (answer != sum.longValue()) {
            System.out.println("62 checksum: " + answer + ", due is " + sum.longValue());
            System.exit(1);
        }
    }
}
