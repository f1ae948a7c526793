/** Promises 10 to 17: places. */
public final class PlacesTest {
    private PlacesTest() {
    }

    public static void main(String[] args) {
        Script.runAll("10 block", BLOCK, "11 place", PLACE, "11 place, mirrored", TURNED, "12 placeOf", PLACE_OF,
                "13 wish", WISH, "14 legalize", LEGALIZE, "14 legalize, several ways", SEVERAL,
                "14 legalize, others and blocked sites", OTHERS, "14 legalize, no room", NO_ROOM, "15 improve", IMPROVE,
                "15 improve, what is left alone", ALONE, "16 length, 17 allLength", LENGTH);
        improvesAtMostFortyTimes();
    }

    private static final String BLOCK = """
            block 0 0 1 0 = 1
            block 0 0 1 0 = 1
            block 5 0 2 3 = 9
            block 23 1 1 3 = 4
            block 1 2 1 3 = 5
            block 0 3 24 3 = 24
            block 0 4 24 0 = 24
            block 10 5 4 1 = 6
            block 12 5 4 1 = 8
            block -1 0 1 0 = IllegalArgumentException
            block 24 0 1 0 = IllegalArgumentException
            block 0 -1 1 0 = IllegalArgumentException
            block 0 6 1 0 = IllegalArgumentException
            block 0 0 0 0 = IllegalArgumentException
            block 0 0 25 0 = IllegalArgumentException
            block 0 0 1 -1 = IllegalArgumentException
            block 0 0 1 4 = IllegalArgumentException
            block 1 0 24 0 = IllegalArgumentException
            block 20 0 5 0 = IllegalArgumentException
            block 20 0 4 0 = 13
            # what stands there stays
            addKind b 2 1 1 1 1 = 0
            addCell 0 = 0
            place 0 16 1 false = -1
            block 17 1 1 0 = 5
            placeOf 0 = 40
            place 0 16 1 false = UnsupportedOperationException
            place 0 18 1 false = 40
            """;

    private static final String PLACE = """
            addKind b 3 1 1 1 1 = 0
            addKind i 1 1 1 1 1 = 1
            addCell 0 = 0
            addCell 0 = 1
            addCell 1 = 2
            place 3 0 0 false = IndexOutOfBoundsException
            place -1 24 0 false = IndexOutOfBoundsException
            place 0 -1 0 false = IllegalArgumentException
            place 0 24 0 false = IllegalArgumentException
            place 0 0 -1 false = IllegalArgumentException
            place 0 0 6 false = IllegalArgumentException
            place 0 22 0 false = UnsupportedOperationException
            place 0 23 0 false = UnsupportedOperationException
            place 0 21 0 false = -1
            place 0 10 2 true = 21
            place 1 10 2 false = UnsupportedOperationException
            place 1 8 2 false = UnsupportedOperationException
            place 1 12 2 false = UnsupportedOperationException
            place 2 11 2 false = UnsupportedOperationException
            place 1 7 2 false = -1
            place 2 13 2 false = -1
            # over itself is no matter
            place 0 10 2 false = 58
            place 2 23 5 false = 61
            place 0 11 2 false = 58
            place 2 23 5 false = 143
            block 20 5 2 0 = 2
            place 1 18 5 false = UnsupportedOperationException
            place 1 17 5 false = 55
            isSound = true
            """;

    private static final String TURNED = """
            addKind i 4 1 1 1 1 = 0
            addInput 0 = 0
            addCell 0 = 0
            connect 0 0 0 = -1
            addOutput 1 0 = 0
            place 0 10 0 false = -1
            length 0 = 10
            length 1 = 10
            place 0 10 0 true = 10
            length 0 = 13
            length 1 = 13
            """;

    private static final String PLACE_OF = """
            addKind i 4 1 1 1 1 = 0
            placeOf 0 = IndexOutOfBoundsException
            addCell 0 = 0
            placeOf 0 = NoSuchElementException
            placeOf 1 = IndexOutOfBoundsException
            placeOf -1 = IndexOutOfBoundsException
            place 0 20 5 false = -1
            placeOf 0 = 140
            place 0 0 0 false = 140
            placeOf 0 = 0
            """;

    private static final String WISH = """
            addKind i 4 1 1 1 1 = 0
            wish 0 0 0 = IndexOutOfBoundsException
            addCell 0 = 0
            wish 0 23 5 = -1
            wish 0 0 0 = 143
            wish 0 0 1 = 0
            wish 0 24 0 = IllegalArgumentException
            wish 0 -1 0 = IllegalArgumentException
            wish 0 0 6 = IllegalArgumentException
            wish 0 0 -1 = IllegalArgumentException
            wish 1 0 6 = IndexOutOfBoundsException
            wish 0 5 5 = 24
            placeOf 0 = NoSuchElementException
            legalize 5 = 0
            placeOf 0 = 125
            # it stays
            wish 0 5 5 = 125
            """;

    private static final String LEGALIZE = """
            addKind i 2 1 1 1 1 = 0
            addInput 0 = 0
            addCell 0 = 0
            addCell 0 = 1
            addCell 0 = 2
            connect 0 0 0 = -1
            legalize -1 = IllegalArgumentException
            legalize 6 = IllegalArgumentException
            legalize 3 = 0
            # 11 is behind both 10, these stand by numbers
            wish 0 10 3 = -1
            wish 1 11 3 = -1
            wish 2 10 3 = -1
            place 0 0 0 true = -1
            length 0 = 1
            legalize 3 = 3
            placeOf 0 = 80
            placeOf 2 = 82
            placeOf 1 = 84
            # not mirrored: the input is at the first site
            length 0 = 11
            legalize 3 = 3
            wish 1 23 3 = 83
            wish 0 0 2 = 82
            legalize 3 = 1
            placeOf 1 = 94
            placeOf 2 = 82
            placeOf 0 = 80
            legalize 2 = 0
            placeOf 0 = 48
            isSound = true
            """;

    private static final String SEVERAL = """
            addKind i 1 1 1 1 1 = 0
            addKind o 3 1 1 1 1 = 1
            addCell 0 = 0
            addCell 0 = 1
            wish 0 5 0 = -1
            wish 1 5 0 = -1
            # 4 and 5, not 5 and 6
            legalize 0 = 1
            placeOf 0 = 4
            placeOf 1 = 5
            block 4 0 1 0 = 1
            legalize 0 = 1
            placeOf 0 = 5
            placeOf 1 = 6
            # 5 is blocked too: 3 and 6, or 6 and 7; the first one is farther to the left
            block 5 0 1 0 = 2
            legalize 0 = 3
            placeOf 0 = 3
            placeOf 1 = 6
            # three of them: the second one as far to the left as it can be, too
            addCell 0 = 2
            wish 2 5 0 = -1
            legalize 0 = 5
            placeOf 0 = 3
            placeOf 1 = 6
            placeOf 2 = 7
            # a cell of another width, that should be at 23
            addCell 1 = 3
            wish 3 23 0 = -1
            legalize 0 = 7
            placeOf 3 = 21
            """;

    private static final String OTHERS = """
            addKind i 2 1 1 1 1 = 0
            addCell 0 = 0
            addCell 0 = 1
            addCell 0 = 2
            place 0 10 4 false = -1
            wish 1 10 4 = -1
            legalize 4 = 2
            placeOf 1 = 104
            # what should be in the row makes room, what should be in another one does not
            wish 0 10 4 = -1
            wish 2 0 0 = -1
            place 2 12 4 false = -1
            legalize 4 = 2
            placeOf 0 = 104
            placeOf 1 = 106
            block 8 4 4 0 = 4
            legalize 4 = 8
            placeOf 0 = 102
            placeOf 1 = 110
            placeOf 2 = 108
            """;

    private static final String NO_ROOM = """
            addKind i 4 1 1 1 1 = 0
            addCell 0 = 0
            addCell 0 = 1
            addCell 0 = 2
            wish 0 0 0 = -1
            wish 1 0 0 = -1
            block 8 0 16 0 = 16
            legalize 0 = 4
            wish 2 0 0 = -1
            legalize 0 = UnsupportedOperationException
            placeOf 0 = 0
            placeOf 1 = 4
            placeOf 2 = NoSuchElementException
            legalize 1 = 0
            block 2 0 2 0 = 18
            wish 2 0 1 = 0
            wish 1 0 1 = 0
            # the cell 1 stands in the row still
            legalize 0 = UnsupportedOperationException
            legalize 1 = 4
            legalize 0 = 4
            placeOf 0 = 4
            """;

    private static final String IMPROVE = """
            addKind i 2 1 1 1 1 = 0
            addInput 0 = 0
            addInput 5 = 1
            addCell 0 = 0
            addCell 0 = 1
            connect 0 0 0 = -1
            connect 1 0 1 = -1
            place 0 4 5 true = -1
            place 1 4 0 false = -1
            block 4 0 3 0 = 3
            allLength = 19
            route = 0
            tree = 0
            improve = 1
            routed 0 = UnsupportedOperationException
            placeOf 0 = 4
            placeOf 1 = 124
            # mirroring stays with the cell
            length 0 = 5
            length 1 = 4
            improve = 0
            isSound = true
            """;

    private static final String ALONE = """
            addKind i 2 1 1 1 1 = 0
            addKind i 1 1 1 1 1 = 1
            addInput 0 = 0
            addInput 5 = 1
            addCell 0 = 0
            addCell 1 = 1
            addCell 0 = 2
            connect 0 0 0 = -1
            connect 1 0 1 = -1
            place 0 4 5 false = -1
            place 1 4 0 false = -1
            route = UnsupportedOperationException
            # unlike widths, and a cell without a place
            improve = 0
            placeOf 0 = 124
            place 2 4 2 false = -1
            improve = 1
            placeOf 0 = 52
            placeOf 2 = 124
            """;

    private static final String LENGTH = """
            length 0 = IndexOutOfBoundsException
            allLength = 0
            addKind n 2 1 1 1 1 = 0
            addInput 1 = 0
            length 0 = 0
            length 1 = IndexOutOfBoundsException
            length -1 = IndexOutOfBoundsException
            addCell 0 = 0
            addCell 0 = 1
            connect 0 0 0 = -1
            connect 0 1 0 = -1
            connect 1 1 0 = -1
            connect 1 0 1 = -1
            # pins without a place do not count
            length 0 = 0
            place 0 3 3 false = -1
            length 0 = 5
            length 1 = 0
            place 1 10 0 false = -1
            length 0 = 13
            length 1 = 9
            addOutput 1 5 = 0
            length 1 = 24
            allLength = 37
            length 2 = 0
            """;

    /** More than 40 exchanges would make wires shorter here: two calls of 40 at the most, and a rest. */
    private static void improvesAtMostFortyTimes() {
        CellrowWorks chip = new CellrowWorks();
        java.util.Random random = new java.util.Random(SEED_OF_FORTY);
        chip.addKind('x', 1, 1, 1, 1, 1);
        for (int i = 0; i < 18; i++) {
            chip.addCell(0);
        }
        for (int i = 0; i < 6; i++) {
            chip.addInput(i);
        }
        for (int i = 0; i < 18; i++) {
            for (int in = 0; in < 2; in++) {
                int net = random.nextInt(24);
                chip.connect(i, in, net < 18 && net >= i ? 18 + net % 6 : net);
            }
        }
        for (int i = 0; i < 6; i++) {
            chip.addOutput(random.nextInt(24), i);
        }
        for (int i = 0; i < 18; i++) {
            int place = i * 8 + random.nextInt(8);
            chip.place(i, place % 24, place / 24, false);
        }
        int first = chip.improve();
        int second = chip.improve();
        if (first != 40 || second != 7) {
            System.out.println("15 improve: " + first + " exchanges, then " + second);
            System.exit(1);
        }
    }

    private static final int SEED_OF_FORTY = 60;
}
