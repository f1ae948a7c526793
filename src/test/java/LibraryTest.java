/** Promises 1 to 9: the library and the net. */
public final class LibraryTest {
    private LibraryTest() {
    }

    public static void main(String[] args) {
        Script.runAll("1 a new object", NEW, "2 addKind", KINDS, "2 addKind when full", FULL_KINDS, "3 addCell", CELLS,
                "4 addInput", INPUTS, "5 addOutput", OUTPUTS, "6 netOf", NETS, "7 connect", CONNECT,
                "7 connect, rings", RINGS, "3 to 7, what is gone", GONE, "8 setKind", SET_KIND, "9 value", VALUE,
                "9 value, deep", VALUE_DEEP);
    }

    private static final String NEW = """
            cellCount = 0
            netCount = 0
            addCell 0 = IndexOutOfBoundsException
            checksum = 5
            shapes = 0
            leakage = 0
            allLength = 0
            isSound = true
            """;

    private static final String KINDS = """
            addKind b 1 1 1 0 0 = 0
            addKind i 4 9 9 99 99 = 1
            addKind n 2 2 2 2 2 = 2
            addKind o 2 2 2 2 2 = 3
            addKind x 2 2 2 2 2 = 4
            addKind l 2 2 2 2 2 = 5
            addKind f 2 2 2 2 2 = 6
            addKind d 2 2 2 2 2 = 7
            addKind a 2 2 2 2 2 = IllegalArgumentException
            addKind B 2 2 2 2 2 = IllegalArgumentException
            addKind b 0 2 2 2 2 = IllegalArgumentException
            addKind b 5 2 2 2 2 = IllegalArgumentException
            addKind b 2 0 2 2 2 = IllegalArgumentException
            addKind b 2 10 2 2 2 = IllegalArgumentException
            addKind b 2 2 0 2 2 = IllegalArgumentException
            addKind b 2 2 10 2 2 = IllegalArgumentException
            addKind b 2 2 2 -1 2 = IllegalArgumentException
            addKind b 2 2 2 100 2 = IllegalArgumentException
            addKind b 2 2 2 2 -1 = IllegalArgumentException
            addKind b 2 2 2 2 100 = IllegalArgumentException
            addKind b 2147483647 -2147483648 2 2 2 = IllegalArgumentException
            addKind b 1 1 1 0 0 = 8
            """;

    private static final String FULL_KINDS = """
            addKind b 1 1 1 0 0 = 0
            addKind b 1 1 1 0 0 = 1
            addKind b 1 1 1 0 0 = 2
            addKind b 1 1 1 0 0 = 3
            addKind b 1 1 1 0 0 = 4
            addKind b 1 1 1 0 0 = 5
            addKind b 1 1 1 0 0 = 6
            addKind b 1 1 1 0 0 = 7
            addKind b 1 1 1 0 0 = 8
            addKind b 1 1 1 0 0 = 9
            addKind b 1 1 1 0 0 = 10
            addCell 11 = IndexOutOfBoundsException
            addKind b 1 1 1 0 0 = 11
            addKind b 1 1 1 0 0 = IllegalStateException
            addKind b 0 1 1 0 0 = IllegalArgumentException
            addCell 11 = 0
            addCell 12 = IndexOutOfBoundsException
            """;

    private static final String CELLS = """
            addKind b 1 1 1 7 0 = 0
            addKind d 1 1 1 5 0 = 1
            addCell -1 = IndexOutOfBoundsException
            addCell 2 = IndexOutOfBoundsException
            addCell 0 = 0
            placeOf 0 = NoSuchElementException
            addCell 1 = 1
            addCell 0 = 2
            netCount = 2
            cellCount = 3
            leakage = 19
            netOf 2 = 1
            addCell 1 = 3
            addCell 1 = 4
            addCell 1 = 5
            addCell 1 = 6
            addCell 1 = 7
            addCell 1 = 8
            addCell 1 = 9
            addCell 1 = 10
            addCell 1 = 11
            addCell 1 = 12
            addCell 1 = 13
            addCell 1 = 14
            addCell 1 = 15
            addCell 1 = 16
            addCell 0 = 17
            netCount = 3
            addCell 0 = IllegalStateException
            addCell 2 = IndexOutOfBoundsException
            cellCount = 18
            """;

    private static final String INPUTS = """
            addInput -1 = IllegalArgumentException
            addInput 6 = IllegalArgumentException
            addInput 0 = 0
            addKind i 1 1 1 1 1 = 0
            addCell 0 = 0
            addInput 5 = 2
            addInput 5 = 3
            addInput 1 = 4
            addInput 2 = 5
            addInput 3 = 6
            addInput 4 = IllegalStateException
            addInput 6 = IllegalArgumentException
            netCount = 7
            # an input of the chip is at the site 0 of its row
            addOutput 2 1 = 0
            length 2 = 27
            netOf 0 = 1
            value 2 2 0 = 1
            value 2 61 0 = 0
            """;

    private static final String OUTPUTS = """
            addOutput 0 0 = IndexOutOfBoundsException
            addOutput 0 9 = IndexOutOfBoundsException
            addInput 2 = 0
            addOutput 1 0 = IndexOutOfBoundsException
            addOutput -1 0 = IndexOutOfBoundsException
            addOutput 0 -1 = IllegalArgumentException
            addOutput 0 6 = IllegalArgumentException
            addOutput 0 5 = 0
            length 0 = 26
            addOutput 0 0 = 1
            length 0 = 28
            addOutput 0 0 = 2
            addOutput 0 0 = 3
            addOutput 0 0 = 4
            slackOut 5 1 = IndexOutOfBoundsException
            addOutput 0 0 = 5
            slackOut 5 1 = 100
            addOutput 0 0 = IllegalStateException
            addOutput 0 6 = IllegalArgumentException
            addOutput 1 0 = IndexOutOfBoundsException
            """;

    private static final String NETS = """
            addKind b 1 1 1 1 1 = 0
            addKind d 1 1 1 1 1 = 1
            addKind f 1 1 1 1 1 = 2
            netOf 0 = IndexOutOfBoundsException
            addInput 0 = 0
            addCell 1 = 0
            addCell 0 = 1
            addInput 0 = 2
            addCell 2 = 2
            netOf 0 = NoSuchElementException
            netOf 1 = 1
            netOf 2 = 3
            netOf 3 = IndexOutOfBoundsException
            netOf -1 = IndexOutOfBoundsException
            """;

    private static final String CONNECT = """
            addKind n 1 1 1 1 1 = 0
            addKind i 1 1 1 1 1 = 1
            addKind d 1 1 1 1 1 = 2
            addInput 0 = 0
            addInput 1 = 1
            addCell 0 = 0
            addCell 1 = 1
            addCell 2 = 2
            connect 0 0 0 = -1
            connect 0 0 1 = 0
            connect 0 0 1 = 1
            connect 0 1 0 = -1
            connect 0 2 0 = IndexOutOfBoundsException
            connect 0 -1 0 = IndexOutOfBoundsException
            connect 1 1 0 = IndexOutOfBoundsException
            connect 2 1 0 = IndexOutOfBoundsException
            connect 2 0 0 = -1
            connect 3 0 0 = IndexOutOfBoundsException
            connect -1 0 0 = IndexOutOfBoundsException
            connect 0 0 4 = IndexOutOfBoundsException
            connect 0 0 -1 = IndexOutOfBoundsException
            connect 1 0 2 = -1
            value 3 3 0 = 1
            value 3 2 0 = 0
            """;

    private static final String RINGS = """
            addKind n 1 1 1 1 1 = 0
            addKind f 1 1 1 1 1 = 1
            addKind l 1 1 1 1 1 = 2
            addKind d 1 1 1 1 1 = 3
            addCell 0 = 0
            addCell 0 = 1
            addCell 1 = 2
            addCell 2 = 3
            addCell 3 = 4
            # to itself
            connect 0 0 0 = UnsupportedOperationException
            connect 3 0 3 = UnsupportedOperationException
            connect 2 0 2 = -1
            # 0 drives 1 drives 3 drives 0
            connect 1 1 0 = -1
            connect 3 0 1 = -1
            connect 0 1 3 = UnsupportedOperationException
            connect 0 5 3 = IndexOutOfBoundsException
            # by a flip-flop it is none
            connect 2 0 3 = 2
            connect 0 1 2 = -1
            connect 4 0 3 = -1
            # the ring is open as soon as another net is there
            connect 3 0 2 = 1
            connect 0 0 3 = -1
            connect 3 0 1 = UnsupportedOperationException
            value 1 0 0 = 1
            isSound = true
            """;

    private static final String GONE = """
            addKind f 1 1 1 1 1 = 0
            addInput 0 = 0
            addCell 0 = 0
            addCell 0 = 1
            connect 0 0 0 = -1
            place 0 3 0 false = -1
            place 1 9 0 false = -1
            tree = 6
            scan = 6
            route = 0
            detail 1 = 0
            shapes = 1
            latency 1 = 3
            scanAt 1 = 1
            routed 0 = 3
            connect 1 0 1 = -1
            shapes = 0
            latency 1 = 0
            scanAt 0 = NoSuchElementException
            routed 0 = UnsupportedOperationException
            tree = 6
            scan = 6
            route = 0
            addInput 0 = 3
            latency 1 = 0
            scanAt 0 = NoSuchElementException
            routed 0 = UnsupportedOperationException
            tree = 6
            scan = 6
            route = 0
            addOutput 3 0 = 0
            latency 1 = 0
            scanAt 0 = NoSuchElementException
            routed 0 = UnsupportedOperationException
            tree = 6
            scan = 6
            route = 0
            addShape 1 0 0 0 1 0 = 0
            addKind f 1 2 2 2 2 = 1
            setKind 0 1 = 0
            setFalse 0 true = false
            setSkew 1 4 = 0
            setDomain 0 1 = 0
            block 20 3 2 0 = 2
            wish 0 1 1 = -1
            setCycles 0 2 = 1
            setPeriod 50 = 100
            setDerate 5 = 0
            setRules 2 1 2 3 = 1
            legalize 2 = 0
            improve = 0
            save = 2
            shapes = 1
            latency 1 = 7
            scanAt 0 = 0
            routed 0 = 3
            addCell 0 = 2
            shapes = 0
            latency 1 = 4
            scanAt 0 = NoSuchElementException
            routed 0 = UnsupportedOperationException
            """;

    private static final String SET_KIND = """
            addKind n 2 2 3 40 10 = 0
            addKind n 2 9 1 7 10 = 1
            addKind n 3 2 3 1 10 = 2
            addKind o 2 2 3 1 10 = 3
            addCell 0 = 0
            setKind 0 1 = 0
            leakage = 7
            setKind 0 1 = 1
            setKind 0 2 = UnsupportedOperationException
            setKind 0 3 = UnsupportedOperationException
            setKind 1 0 = IndexOutOfBoundsException
            setKind -1 0 = IndexOutOfBoundsException
            setKind 0 4 = IndexOutOfBoundsException
            setKind 0 -1 = IndexOutOfBoundsException
            setKind 0 0 = 1
            leakage = 40
            """;

    private static final String VALUE = """
            addKind b 1 1 1 1 1 = 0
            addKind i 1 1 1 1 1 = 1
            addKind n 1 1 1 1 1 = 2
            addKind o 1 1 1 1 1 = 3
            addKind x 1 1 1 1 1 = 4
            addKind l 1 1 1 1 1 = 5
            addKind f 1 1 1 1 1 = 6
            addInput 0 = 0
            addInput 0 = 1
            addCell 0 = 0
            addCell 1 = 1
            addCell 2 = 2
            addCell 3 = 3
            addCell 4 = 4
            addCell 5 = 5
            addCell 6 = 6
            # inputs without a net are 0
            value 2 3 0 = 0
            value 3 3 0 = 1
            value 4 3 0 = 1
            value 5 3 0 = 1
            value 6 3 0 = 0
            value 7 3 0 = 0
            connect 0 0 0 = -1
            connect 1 0 0 = -1
            connect 2 0 0 = -1
            connect 2 1 1 = -1
            connect 3 0 0 = -1
            connect 3 1 1 = -1
            connect 4 0 0 = -1
            connect 4 1 1 = -1
            connect 5 0 1 = -1
            connect 6 0 0 = -1
            value 0 1 0 = 1
            value 0 2 0 = 0
            value 1 2 0 = 1
            value 2 1 0 = 1
            value 2 2 0 = 0
            value 3 1 0 = 0
            value 3 2 0 = 1
            value 4 0 0 = 1
            value 4 1 0 = 1
            value 4 2 0 = 1
            value 4 3 0 = 0
            value 5 0 0 = 1
            value 5 1 0 = 0
            value 5 2 0 = 0
            value 5 3 0 = 0
            value 6 0 0 = 0
            value 6 1 0 = 1
            value 6 2 0 = 1
            value 6 3 0 = 0
            value 7 1 0 = 0
            value 7 2 0 = 1
            # a state stands at the bit of its cell
            value 8 3 64 = 1
            value 8 3 -65 = 0
            value 8 -1 -1 = 1
            value 9 0 0 = IndexOutOfBoundsException
            value -1 0 0 = IndexOutOfBoundsException
            """;

    private static final String VALUE_DEEP = """
            addKind i 1 1 1 1 1 = 0
            addKind n 1 1 1 1 1 = 1
            addKind f 1 1 1 1 1 = 2
            # numbers of cells and the way of signals go against one another
            addCell 1 = 0
            addCell 0 = 1
            addCell 0 = 2
            addCell 2 = 3
            addInput 0 = 4
            connect 0 0 1 = -1
            connect 0 1 3 = -1
            connect 1 0 2 = -1
            connect 2 0 4 = -1
            value 0 1 8 = 0
            value 0 0 8 = 1
            value 0 1 0 = 1
            connect 3 0 0 = -1
            value 0 1 8 = 0
            """;
}
