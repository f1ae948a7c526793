/** Promises 39 to 46: shapes and rules. */
public final class ShapesTest {
    private ShapesTest() {
    }

    public static void main(String[] args) {
        Script.runAll("39 detail, 40 shapes", DETAIL, "39 detail, order", ORDER, "39 detail, no track", NO_TRACK,
                "41 shapeAt", SHAPE_AT, "42 addShape", ADD, "43 removeShape", REMOVE, "44 setRules", RULES,
                "45 breaches, letters", LETTERS, "45 breaches, 46 breachesAnew: gaps", GAPS, "45 breaches, lengths",
                LENGTHS, "45 breaches, fills", FILLS, "45 breaches, antennas", ANTENNAS, "45 breaches, domains", DOMAINS);
        holdsTwoHundred();
    }

    /** Three buffers in the row 0, whose wires go from 0 to 2, 5 and 9. */
    private static final String ROW = """
            addKind b 1 1 1 0 0 = 0
            addInput 0 = 0
            addCell 0 = 0
            addCell 0 = 1
            addCell 0 = 2
            connect 0 0 0 = -1
            connect 1 0 1 = -1
            connect 2 0 2 = -1
            place 0 2 0 false = -1
            place 1 5 0 false = -1
            place 2 9 0 false = -1
            """;

    private static final String DETAIL = ROW + """
            detail 1 = UnsupportedOperationException
            detail 0 = IllegalArgumentException
            detail 5 = IllegalArgumentException
            shapes = 0
            route = 0
            detail 5 = IllegalArgumentException
            detail 1 = 0
            shapes = 3
            shapeAt 0 t = 0
            shapeAt 1 t = 1
            shapeAt 2 t = 0
            shapeAt 2 a = 5
            shapeAt 2 z = 9
            shapeAt 2 n = 2
            detail 3 = 0
            shapeAt 2 t = 0
            detail 4 = 0
            shapes = 3
            shapeAt 2 t = 2
            isAsDrawn = true
            setCapacity 2 3 = 43
            route = 0
            detail 4 = 1
            shapes = 2
            isAsDrawn = false
            isSound = true
            detail 3 = 0
            isAsDrawn = true
            # what was added by hand is gone as wires are laid anew
            addShape 0 5 0 0 4 0 = 3
            detail 3 = 0
            shapes = 3
            """;

    private static final String ORDER = """
            addKind d 1 1 1 0 0 = 0
            addInput 1 = 0
            addInput 1 = 1
            addInput 0 = 2
            addCell 0 = 0
            addCell 0 = 1
            addCell 0 = 2
            connect 0 0 0 = -1
            connect 1 0 1 = -1
            connect 2 0 2 = -1
            place 0 8 3 false = -1
            place 1 6 1 false = -1
            place 2 8 1 false = -1
            route = 0
            # row 0: net 2 to 8; row 1: net 1 to 6, then net 0 to 8; site 8: net 2 from 0 to 1, net 0 from 1 to 3
            detail 1 = 0
            shapes = 5
            shapeAt 0 n = 2
            shapeAt 0 i = 0
            shapeAt 0 l = 0
            shapeAt 1 n = 1
            shapeAt 1 i = 1
            shapeAt 1 z = 6
            shapeAt 1 t = 0
            shapeAt 2 n = 0
            shapeAt 2 z = 8
            shapeAt 2 t = 1
            shapeAt 2 m = 1
            shapeAt 3 l = 1
            shapeAt 3 i = 8
            shapeAt 3 n = 2
            shapeAt 3 a = 0
            shapeAt 3 z = 1
            shapeAt 3 t = 0
            shapeAt 4 n = 0
            shapeAt 4 a = 1
            shapeAt 4 z = 3
            shapeAt 4 t = 1
            isAsDrawn = true
            # wires that begin and end alike: by nets
            place 0 6 0 false = 80
            connect 0 0 2 = 0
            connect 1 0 0 = 1
            connect 2 0 1 = 2
            place 1 4 1 false = 30
            place 2 4 2 false = 32
            route = 0
            detail 1 = 0
            shapeAt 1 n = 0
            shapeAt 2 n = 1
            shapeAt 2 t = 1
            """;

    private static final String NO_TRACK = """
            addInput 0 = 0
            addInput 0 = 1
            addInput 0 = 2
            addOutput 0 0 = 0
            addOutput 1 0 = 1
            addOutput 2 0 = 2
            setCapacity 2 1 = 43
            route = 23
            detail 1 = 1
            shapes = 2
            shapeAt 1 n = 1
            opens = 1
            isAsDrawn = false
            isSound = true
            """;

    private static final String SHAPE_AT = """
            shapeAt 0 l = IndexOutOfBoundsException
            addInput 0 = 0
            addInput 0 = 1
            setCapacity 4 5 = 43
            addShape 1 20 3 1 4 1 = 0
            shapeAt 0 l = 1
            shapeAt 0 i = 20
            shapeAt 0 t = 3
            shapeAt 0 a = 1
            shapeAt 0 z = 4
            shapeAt 0 n = 1
            shapeAt 0 m = 1
            shapeAt 0 x = IllegalArgumentException
            shapeAt 0 L = IllegalArgumentException
            shapeAt 1 l = IndexOutOfBoundsException
            shapeAt 1 x = IndexOutOfBoundsException
            shapeAt -1 l = IndexOutOfBoundsException
            addShape 0 5 2 0 23 0 = 1
            shapeAt 1 l = 0
            shapeAt 1 m = 0
            shapeAt 1 n = 0
            """;

    private static final String ADD = """
            addShape 0 0 0 0 1 0 = IndexOutOfBoundsException
            addInput 0 = 0
            addShape 0 0 0 0 1 1 = IndexOutOfBoundsException
            addShape 9 0 0 0 1 -1 = IndexOutOfBoundsException
            addShape 2 0 0 0 1 0 = IllegalArgumentException
            addShape -1 0 0 0 1 0 = IllegalArgumentException
            addShape 0 6 0 0 1 0 = IllegalArgumentException
            addShape 0 -1 0 0 1 0 = IllegalArgumentException
            addShape 1 24 0 0 1 0 = IllegalArgumentException
            addShape 0 0 4 0 1 0 = IllegalArgumentException
            addShape 0 0 -1 0 1 0 = IllegalArgumentException
            addShape 1 0 3 0 1 0 = IllegalArgumentException
            addShape 0 0 0 -1 1 0 = IllegalArgumentException
            addShape 0 0 0 3 3 0 = IllegalArgumentException
            addShape 0 0 0 4 3 0 = IllegalArgumentException
            addShape 0 0 0 20 24 0 = IllegalArgumentException
            addShape 0 0 0 23 24 0 = IllegalArgumentException
            addShape 1 0 0 2 6 0 = IllegalArgumentException
            addShape 0 0 0 2147483647 -2147483648 0 = IllegalArgumentException
            addShape 0 5 3 22 23 0 = 0
            addShape 1 23 2 0 5 0 = 1
            shapes = 2
            setCapacity 1 9 = 43
            shapes = 0
            addShape 0 0 1 0 1 0 = IllegalArgumentException
            addShape 1 0 8 0 1 0 = 0
            checksum = 211
            """;

    private static final String REMOVE = """
            removeShape 0 = IndexOutOfBoundsException
            addInput 0 = 0
            addInput 0 = 1
            addInput 0 = 2
            addShape 0 0 0 0 9 0 = 0
            addShape 0 0 1 2 9 1 = 1
            addShape 0 0 2 0 9 2 = 2
            coupling 0 1 = 7
            removeShape 3 = IndexOutOfBoundsException
            removeShape -1 = IndexOutOfBoundsException
            removeShape 0 = 0
            shapes = 2
            shapeAt 0 n = 1
            shapeAt 0 a = 2
            shapeAt 0 t = 1
            shapeAt 1 n = 2
            coupling 0 1 = 0
            coupling 2 1 = 7
            removeShape 1 = 2
            removeShape 1 = IndexOutOfBoundsException
            removeShape 0 = 1
            shapes = 0
            coupling 2 1 = 0
            addShape 0 0 0 0 9 2 = 0
            """;

    private static final String RULES = """
            setRules 0 0 100 99 = IllegalArgumentException
            setRules 10 0 100 99 = IllegalArgumentException
            setRules 1 -1 100 99 = IllegalArgumentException
            setRules 1 101 101 99 = IllegalArgumentException
            setRules 1 0 101 99 = IllegalArgumentException
            setRules 1 50 49 99 = IllegalArgumentException
            setRules 1 0 100 0 = IllegalArgumentException
            setRules 1 0 100 100 = IllegalArgumentException
            breaches d = 0
            setRules 9 100 100 99 = 1
            breaches d = 3
            setRules 1 0 0 1 = 9
            breaches d = 0
            """;

    private static final String LETTERS = """
            breaches s = 0
            breaches a = 0
            breaches d = 0
            breaches t = 0
            breaches l = 0
            breaches b = IllegalArgumentException
            breaches S = IllegalArgumentException
            breachesAnew = 0
            """;

    private static final String GAPS = ROW + """
            addShape 0 3 0 2 5 0 = 0
            addShape 0 3 0 5 9 1 = 1
            addShape 0 3 0 10 12 2 = 2
            # the gap is 1 at first: one place in common is too much
            breaches s = 1
            breachesAnew = 1
            # another track, row, layer, or the same net
            addShape 0 3 1 0 20 2 = 3
            addShape 0 4 0 0 20 2 = 4
            addShape 1 3 0 0 5 2 = 5
            addShape 0 3 0 3 5 0 = 6
            breaches s = 2
            breachesAnew = 2
            route = 0
            detail 2 = 0
            shapes = 3
            breaches s = 0
            addShape 0 3 0 2 5 0 = 3
            addShape 0 3 0 6 9 1 = 4
            addShape 0 3 0 11 12 2 = 5
            # a gap of 2 is kept between the last two
            breaches s = 1
            addShape 0 3 0 0 23 2 = 6
            breaches s = 3
            breachesAnew = 3
            addShape 0 3 0 6 8 0 = 7
            breaches s = 5
            breachesAnew = 5
            detail 5 = IllegalArgumentException
            breaches s = 5
            setCapacity 4 3 = 43
            # the gap stays 2
            addShape 0 3 0 2 5 0 = 0
            addShape 0 3 0 6 9 1 = 1
            breaches s = 1
            addShape 0 3 0 7 9 2 = 2
            breaches s = 2
            removeShape 1 = 1
            breaches s = 0
            isSound = true
            # what begins first comes last
            addShape 0 5 0 20 22 0 = 2
            addShape 0 5 0 10 15 1 = 3
            addShape 0 5 0 2 10 2 = 4
            breaches s = 1
            breachesAnew = 1
            addShape 1 5 0 2 3 1 = 5
            addShape 1 4 0 2 3 2 = 6
            addShape 0 5 1 2 3 1 = 7
            addShape 0 4 1 2 3 2 = 8
            breaches s = 1
            """;

    private static final String LENGTHS = """
            addInput 0 = 0
            addShape 0 0 0 0 1 0 = 0
            addShape 1 0 0 0 3 0 = 1
            addShape 0 2 0 0 4 0 = 2
            breaches a = 0
            setRules 3 0 100 99 = 1
            breaches a = 1
            setRules 4 0 100 99 = 3
            breaches a = 2
            setRules 9 0 100 99 = 4
            breaches a = 3
            """;

    private static final String FILLS = """
            addInput 0 = 0
            setCapacity 1 3 = 43
            # 8 of 48 are 16 hundredths; the step from 15 to 16 belongs to the second window
            addShape 0 0 0 6 17 0 = 0
            setRules 1 4 16 99 = 1
            breaches d = 1
            setRules 1 5 16 99 = 1
            breaches d = 2
            setRules 1 2 16 99 = 1
            breaches d = 0
            setRules 1 0 15 99 = 1
            breaches d = 1
            setRules 1 17 100 99 = 1
            breaches d = 3
            # each step by itself, and none of sites
            addShape 0 0 0 8 10 0 = 1
            addShape 1 9 0 0 5 0 = 2
            setRules 1 0 19 99 = 1
            breaches d = 1
            setRules 1 0 20 99 = 1
            breaches d = 0
            # the last window has 7 steps in a row
            setCapacity 1 3 = 13
            addShape 0 1 0 16 23 0 = 0
            setRules 1 14 100 99 = 1
            breaches d = 2
            setRules 1 15 100 99 = 1
            breaches d = 3
            # of 96 it is half
            setCapacity 2 3 = 13
            addShape 0 1 0 16 23 0 = 0
            setRules 1 0 7 99 = 1
            breaches d = 0
            setRules 1 0 6 99 = 1
            breaches d = 1
            """;

    private static final String ANTENNAS = """
            addKind n 1 1 1 0 0 = 0
            addKind d 1 1 1 0 0 = 1
            addInput 0 = 0
            addInput 0 = 1
            addCell 0 = 0
            addCell 1 = 1
            addShape 0 0 0 0 9 0 = 0
            addShape 0 1 0 0 3 0 = 1
            addShape 1 1 0 0 5 0 = 2
            setRules 1 0 100 1 = 1
            # without inputs it is none
            breaches t = 0
            connect 0 0 0 = -1
            shapes = 0
            addShape 0 0 0 0 9 0 = 0
            addShape 0 1 0 0 3 0 = 1
            addShape 1 1 0 0 5 0 = 2
            setRules 1 0 100 11 = 1
            breaches t = 1
            setRules 1 0 100 12 = 1
            breaches t = 0
            connect 0 1 0 = -1
            addShape 0 0 0 0 9 0 = 0
            addShape 0 1 0 0 4 0 = 1
            # 13 by two inputs, cut
            setRules 1 0 100 6 = 1
            breaches t = 0
            setRules 1 0 100 5 = 1
            breaches t = 1
            # outputs are no inputs
            addOutput 0 0 = 0
            addOutput 1 0 = 1
            addShape 0 0 0 0 9 0 = 0
            addShape 0 1 0 0 4 0 = 1
            addShape 0 2 0 0 14 1 = 2
            breaches t = 1
            connect 1 0 0 = -1
            addShape 0 0 0 0 23 0 = 0
            breaches t = 0
            """;

    private static final String DOMAINS = """
            addKind n 1 1 1 0 0 = 0
            addKind l 1 1 1 0 0 = 1
            addKind d 1 1 1 0 0 = 2
            addInput 0 = 0
            addCell 0 = 0
            addCell 0 = 1
            addCell 1 = 2
            addCell 2 = 3
            addCell 0 = 4
            connect 0 0 0 = -1
            connect 1 0 1 = -1
            connect 1 1 1 = -1
            connect 2 0 1 = -1
            connect 3 0 1 = -1
            connect 4 1 3 = -1
            addOutput 1 0 = 0
            breaches l = 0
            # both inputs of 1, the diode; not the shifter, and no input or output of the chip
            setDomain 0 1 = 0
            breaches l = 3
            setDomain 3 1 = 0
            breaches l = 2
            # from the shifter on it counts
            setDomain 4 1 = 0
            breaches l = 3
            setDomain 1 1 = 0
            breaches l = 1
            setDomain 2 1 = 0
            breaches l = 0
            """;

    private static void holdsTwoHundred() {
        CellrowWorks chip = new CellrowWorks();
        chip.addInput(0);
        for (int i = 0; i < 200; i++) {
            if (chip.addShape(0, i % 6, i % 4, i % 20, i % 20 + 3, 0) != i) {
                fail("the index " + i);
            }
        }
        String before = Calls.look(chip);
        if (!Calls.answer(chip, "addShape", 0, 0, 0, 0, 1, 0).equals("throws IllegalStateException")
                || !Calls.answer(chip, "addShape", 0, 0, 0, 1, 1, 0).equals("throws IllegalArgumentException")
                || !Calls.answer(chip, "addShape", 0, 0, 0, 1, 1, 1).equals("throws IndexOutOfBoundsException")
                || !before.equals(Calls.look(chip))) {
            fail("the shape 201");
        }
        if (chip.removeShape(199) != 0 || chip.addShape(1, 0, 0, 0, 1, 0) != 199) {
            fail("the last shape again");
        }
    }

    private static void fail(String what) {
        System.out.println("42 addShape: " + what);
        System.exit(1);
    }
}
