/** Promises 58 to 65: figures. */
public final class FiguresTest {
    private FiguresTest() {
    }

    public static void main(String[] args) {
        Script.runAll("59 leakage, 60 cellCount, 61 netCount", COUNTS, "62 checksum", CHECKSUM, "63 fill", FILL,
                "63 fill, all blocked", BLOCKED, "64 meanLength", MEAN, "65 isSound", SOUND);
    }

    private static final String COUNTS = """
            leakage = 0
            cellCount = 0
            netCount = 0
            addKind b 1 1 1 99 0 = 0
            addKind d 1 1 1 3 0 = 1
            leakage = 0
            addCell 0 = 0
            addCell 1 = 1
            addCell 0 = 2
            leakage = 201
            cellCount = 3
            netCount = 2
            addInput 0 = 2
            addOutput 0 0 = 0
            netCount = 3
            cellCount = 3
            place 0 0 0 false = -1
            buffer 0 0 5 5 = 9999
            leakage = 300
            cellCount = 4
            netCount = 4
            setKind 0 0 = 0
            addKind b 1 1 1 0 0 = 2
            save = 3
            leakage = 3
            """;

    private static final String CHECKSUM = """
            checksum = 5
            addKind b 1 1 1 99 0 = 0
            addCell 0 = 0
            checksum = 154
            place 0 3 2 true = -1
            checksum = 206
            addCell 0 = 1
            checksum = 6385
            addShape 0 4 3 0 1 1 = 0
            # 31 by 6385, and 4 and 21 and 1
            checksum = 197961
            addShape 1 20 0 0 1 0 = 1
            checksum = 6136811
            removeShape 0 = 1
            checksum = 197955
            """;

    private static final String FILL = """
            fill = 0.0
            addKind b 4 1 1 99 0 = 0
            addCell 0 = 0
            fill = 0.0
            place 0 0 0 false = -1
            fill = 0.027777778
            block 2 0 22 0 = 22
            # 2 of 122
            fill = 0.016393442
            block 0 1 24 0 = 24
            block 0 2 24 0 = 24
            block 0 3 24 0 = 24
            block 0 4 24 0 = 24
            block 0 5 24 0 = 24
            fill = 1.0
            """;

    private static final String BLOCKED = """
            block 0 0 24 0 = 24
            block 0 1 24 0 = 24
            block 0 2 24 0 = 24
            block 0 3 24 0 = 24
            block 0 4 24 0 = 24
            block 0 5 23 0 = 23
            fill = 0.0
            block 0 5 23 1 = 24
            fill = ArithmeticException
            """;

    private static final String MEAN = """
            meanLength = ArithmeticException
            addKind d 4 1 1 99 0 = 0
            addCell 0 = 0
            meanLength = ArithmeticException
            addInput 0 = 0
            meanLength = 0.0
            addInput 0 = 1
            addInput 0 = 2
            addOutput 0 2 = 0
            meanLength = 8.333333333333334
            addOutput 1 0 = 1
            meanLength = 16.0
            """;

    private static final String SOUND = """
            isSound = true
            addKind n 1 4 1 9 7 = 0
            addKind f 2 4 1 9 7 = 1
            addInput 0 = 0
            addCell 0 = 0
            addCell 0 = 1
            addCell 1 = 2
            addCell 1 = 3
            connect 0 0 0 = -1
            connect 0 1 3 = -1
            connect 1 0 1 = -1
            connect 1 1 4 = -1
            connect 2 0 2 = -1
            connect 3 0 3 = -1
            addOutput 2 5 = 0
            place 0 4 1 false = -1
            place 1 8 2 true = -1
            place 2 12 3 false = -1
            place 3 16 1 false = -1
            setDerate 30 = 0
            tree = 6
            isSound = true
            route = 0
            detail 2 = 0
            isAsDrawn = true
            isSound = true
            # a shape was taken away since: what is drawn does not matter
            removeShape 0 = 0
            isAsDrawn = false
            isSound = true
            detail 1 = 0
            addShape 0 1 0 0 23 4 = 13
            isAsDrawn = false
            isSound = true
            """;
}
