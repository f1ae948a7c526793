/** Promises 47 to 58: couplings, power, tests, late changes, and what is drawn. */
public final class PowerTest {
    private PowerTest() {
    }

    public static void main(String[] args) {
        Script.runAll("47 coupling", COUPLING, "48 delta", DELTA, "48 delta, times that do not meet", APART,
                "48 delta, in turn", IN_TURN, "48 delta, flip-flops", FLOPS, "49 drop", DROP, "50 setDomain", DOMAIN, "51 scan, 52 scanAt", SCAN,
                "53 lockups", LOCKUPS, "54 change", CHANGE, "54 change, refused", REFUSED, "54 change, its own input",
                OWN, "55 isSpare", SPARE, "56 opens", OPENS, "56 opens, joined shapes", JOINED, "57 shorts", SHORTS,
                "58 isAsDrawn", AS_DRAWN);
    }

    private static final String COUPLING = """
            coupling 0 0 = IndexOutOfBoundsException
            addInput 0 = 0
            addInput 0 = 1
            addInput 0 = 2
            addShape 0 2 1 0 10 0 = 0
            addShape 0 2 2 7 20 1 = 1
            coupling 0 1 = 3
            coupling 1 0 = 3
            coupling 0 0 = 0
            coupling 0 2 = 0
            addShape 0 2 0 9 20 1 = 2
            coupling 0 1 = 4
            # two tracks away, the same track, another row, another layer, nothing but a place in common
            addShape 0 2 3 0 10 1 = 3
            addShape 0 2 1 0 10 1 = 4
            coupling 0 1 = 4
            addShape 0 3 2 0 10 1 = 5
            addShape 1 2 2 0 5 1 = 6
            coupling 0 1 = 4
            addShape 0 2 0 10 20 2 = 7
            coupling 0 2 = 0
            coupling 1 2 = 0
            # along a site
            addShape 1 2 1 1 3 2 = 8
            coupling 1 2 = 2
            # a net beside itself
            addShape 0 2 2 0 5 0 = 9
            coupling 0 0 = 0
            # two nets beside one another on tracks 2 and 1
            coupling 0 1 = 14
            coupling 0 3 = IndexOutOfBoundsException
            coupling 3 0 = IndexOutOfBoundsException
            coupling -1 0 = IndexOutOfBoundsException
            coupling 0 -1 = IndexOutOfBoundsException
            """;

    private static final String DELTA = """
            delta 0 = IndexOutOfBoundsException
            addInput 0 = 0
            addInput 0 = 1
            addInput 0 = 2
            addOutput 0 0 = 0
            delta 0 = 0
            addShape 0 2 0 0 10 1 = 0
            addShape 0 2 1 5 20 0 = 1
            delta 0 = 2
            delta 1 = 2
            delta 2 = 0
            late 0 0 = 2
            late 0 2 = 2
            early 0 1 = 0
            slackOut 0 1 = 98
            worst 1 = 98
            worstAnew 1 = 98
            # half of the sum of 5 and 2, cut, not of each one
            addShape 0 2 2 18 23 2 = 2
            delta 0 = 3
            delta 1 = 2
            delta 2 = 1
            removeShape 0 = 1
            delta 0 = 1
            delta 1 = 0
            delta -1 = IndexOutOfBoundsException
            delta 3 = IndexOutOfBoundsException
            """;

    private static final String APART = """
            addKind i 1 9 1 0 10 = 0
            addInput 0 = 0
            addInput 0 = 1
            addCell 0 = 0
            connect 0 0 0 = -1
            addShape 0 2 0 0 20 1 = 0
            addShape 0 2 1 0 20 2 = 1
            # 0 and 10 do not meet
            late 2 1 = 10
            delta 1 = 0
            delta 2 = 0
            coupling 1 2 = 20
            # a net to which nothing comes has no times
            setFalse 0 true = false
            addShape 0 2 0 0 20 0 = 2
            late 2 1 = -1
            delta 0 = 0
            delta 2 = 0
            setFalse 0 false = true
            # 0 and 1 are later by 10 as they meet; so 2 meets both, and all are later by half of 20 and 20
            addShape 0 3 0 0 20 0 = 3
            addShape 0 3 1 0 20 1 = 4
            delta 0 = 20
            delta 1 = 20
            delta 2 = 20
            late 2 1 = 50
            early 2 1 = 10
            # deltas are of the corner 1 in all corners
            late 2 0 = 48
            late 0 1 = 20
            """;

    /** What is found in the last of four times stands, though it is not the end. */
    private static final String IN_TURN = """
            addKind i 1 9 1 0 4 = 0
            addKind i 1 9 1 0 8 = 1
            addKind i 1 9 1 0 12 = 2
            addKind i 1 9 1 0 16 = 3
            addKind i 1 9 1 0 20 = 4
            addInput 0 = 0
            addInput 0 = 1
            addInput 0 = 2
            addCell 0 = 0
            addCell 1 = 1
            addCell 2 = 2
            addCell 3 = 3
            addCell 4 = 4
            connect 0 0 0 = -1
            connect 1 0 0 = -1
            connect 2 0 0 = -1
            connect 3 0 0 = -1
            connect 4 0 0 = -1
            # 1 and 2 meet at 0; so 2 lasts to 4 and meets 3, which lasts to 8 then and meets 4, and so on
            addShape 0 0 0 0 8 1 = 0
            addShape 0 0 1 0 8 2 = 1
            addShape 0 1 0 0 8 2 = 2
            addShape 0 1 1 0 8 3 = 3
            addShape 0 2 0 0 8 3 = 4
            addShape 0 2 1 0 8 4 = 5
            addShape 0 3 0 0 8 4 = 6
            addShape 0 3 1 0 8 5 = 7
            addShape 0 4 0 0 8 5 = 8
            addShape 0 4 1 0 8 6 = 9
            addShape 0 5 0 0 8 6 = 10
            addShape 0 5 1 0 8 7 = 11
            delta 0 = 0
            delta 1 = 4
            delta 2 = 8
            delta 3 = 8
            delta 4 = 8
            delta 5 = 4
            delta 6 = 0
            delta 7 = 0
            late 4 1 = 16
            late 5 1 = 16
            late 6 1 = 16
            late 7 1 = 20
            """;

    private static final String FLOPS = """
            addKind f 1 9 1 0 10 = 0
            addCell 0 = 0
            addCell 0 = 1
            connect 1 0 0 = -1
            addShape 0 2 0 0 10 0 = 0
            addShape 0 2 1 0 11 1 = 1
            delta 0 = 5
            late 0 1 = 15
            early 0 1 = 10
            slack 1 1 false = 83
            slack 1 1 true = 9
            worst 1 = 83
            worstAnew 1 = 83
            # times that meet at one point alone do meet
            setSkew 0 -5 = 0
            delta 0 = 0
            setSkew 0 -4 = -5
            delta 0 = 0
            setSkew 0 0 = -4
            delta 0 = 5
            """;

    private static final String DROP = """
            drop 0 = IndexOutOfBoundsException
            addKind f 2 3 1 0 0 = 0
            addKind d 1 9 1 0 0 = 1
            addCell 0 = 0
            addCell 1 = 1
            addCell 0 = 2
            drop 0 = UnsupportedOperationException
            drop 3 = IndexOutOfBoundsException
            drop -1 = IndexOutOfBoundsException
            place 0 0 2 true = -1
            # 3 by 1 by 24 is 72
            drop 0 = 2
            place 1 11 2 false = -1
            # 72 and 9 by 1 by 13 are 189; 3 by 1 by 13 and 9 by 12 by 13 are 1443
            drop 0 = 7
            drop 1 = 57
            place 2 11 3 false = -1
            drop 2 = 18
            drop 1 = 57
            """;

    private static final String DOMAIN = """
            addKind b 1 1 1 0 0 = 0
            setDomain 0 0 = IndexOutOfBoundsException
            addCell 0 = 0
            setDomain 0 1 = 0
            setDomain 0 1 = 1
            setDomain 0 2 = IllegalArgumentException
            setDomain 0 -1 = IllegalArgumentException
            setDomain 1 2 = IndexOutOfBoundsException
            setDomain -1 0 = IndexOutOfBoundsException
            setDomain 0 0 = 1
            """;

    private static final String SCAN = """
            scan = 0
            scanAt 0 = NoSuchElementException
            addKind f 1 1 1 0 0 = 0
            addKind b 1 1 1 0 0 = 1
            addCell 0 = 0
            addCell 1 = 1
            addCell 0 = 2
            addCell 0 = 3
            addCell 0 = 4
            scan = UnsupportedOperationException
            place 0 10 0 false = -1
            place 2 5 1 false = -1
            place 3 6 0 false = -1
            place 4 8 0 true = -1
            # 2 and 3 are 6 away from the beginning; 3 is 2 away from 2, and from 4, which is 2 away from 0
            scan = 6
            scanAt -1 = NoSuchElementException
            scanAt 0 = 2
            scanAt 1 = 3
            scanAt 2 = 4
            scanAt 3 = 0
            scanAt 4 = NoSuchElementException
            # of several that are as near the lowest number
            place 2 7 1 false = 29
            scanAt 0 = NoSuchElementException
            scan = 6
            scanAt 0 = 3
            scanAt 1 = 2
            scanAt 2 = 4
            """;

    private static final String LOCKUPS = """
            addKind f 1 1 1 0 0 = 0
            addCell 0 = 0
            addCell 0 = 1
            addCell 0 = 2
            place 0 0 0 false = -1
            place 1 4 0 false = -1
            place 2 8 0 false = -1
            setSkew 1 3 = 0
            lockups = 0
            scan = 8
            lockups = 1
            setSkew 2 3 = 0
            lockups = 1
            setSkew 2 4 = 3
            lockups = 2
            tree = 12
            # of pairs that are as near the first one
            common 0 1 = 3
            common 1 2 = 0
            lockups = 2
            setSkew 0 9 = 0
            lockups = 1
            place 1 4 1 false = 4
            lockups = 0
            """;

    private static final String CHANGE = """
            addKind n 2 1 1 0 0 = 0
            addKind n 1 2 1 0 0 = 1
            addInput 0 = 0
            addInput 0 = 1
            addCell 0 = 0
            addCell 0 = 1
            addCell 1 = 2
            addCell 1 = 3
            connect 0 0 0 = -1
            connect 0 1 1 = -1
            connect 1 0 2 = -1
            connect 1 1 2 = -1
            connect 2 0 2 = -1
            addOutput 2 0 = 0
            addOutput 3 0 = 1
            place 3 5 5 false = -1
            isSpare 3 = true
            isSpare 0 = false
            # both inputs of 1, one of 2, and an output
            change 0 3 = 4
            isSpare 3 = false
            netOf 3 = 5
            connect 0 0 0 = -1
            connect 3 0 0 = 0
            connect 3 1 1 = 1
            connect 1 0 5 = 5
            connect 1 1 5 = 5
            connect 2 0 5 = 5
            value 5 3 0 = 0
            slackOut 0 1 = 82
            place 0 5 4 false = -1
            isSpare 0 = false
            # what was routed and laid, the tree and the chain are gone
            addKind d 1 2 1 0 0 = 2
            addCell 2 = 4
            addCell 2 = 5
            connect 4 0 0 = -1
            place 5 0 0 false = -1
            addShape 0 0 0 0 5 0 = 0
            change 4 5 = 0
            shapes = 0
            connect 5 0 1 = 0
            netOf 5 = NoSuchElementException
            # a cell that nothing hangs on
            place 4 1 0 false = -1
            change 5 4 = 0
            """;

    private static final String REFUSED = """
            addKind b 1 1 1 0 0 = 0
            addKind i 1 1 1 0 0 = 1
            change 0 0 = IndexOutOfBoundsException
            addCell 0 = 0
            addCell 0 = 1
            addCell 1 = 2
            change 0 3 = IndexOutOfBoundsException
            change 3 0 = IndexOutOfBoundsException
            change -1 0 = IndexOutOfBoundsException
            change 0 -1 = IndexOutOfBoundsException
            # without a place
            change 0 1 = UnsupportedOperationException
            place 0 0 0 false = -1
            place 1 1 0 false = -1
            place 2 2 0 false = -1
            isSpare 1 = true
            change 1 1 = UnsupportedOperationException
            change 0 2 = UnsupportedOperationException
            connect 2 0 1 = -1
            # it drives something
            change 0 1 = UnsupportedOperationException
            connect 2 0 0 = 1
            connect 1 0 0 = -1
            change 0 1 = UnsupportedOperationException
            """;

    private static final String OWN = """
            addKind f 1 1 1 0 0 = 0
            addCell 0 = 0
            addCell 0 = 1
            addCell 0 = 2
            connect 0 0 0 = -1
            connect 1 0 0 = -1
            place 2 0 0 false = -1
            place 0 1 0 false = -1
            scan = UnsupportedOperationException
            # the input of its own goes along, and is none of another cell
            change 0 2 = 1
            connect 2 0 1 = 2
            connect 1 0 2 = 2
            isSpare 0 = true
            connect 0 0 0 = -1
            """;

    private static final String SPARE = """
            addKind n 1 1 1 0 0 = 0
            addKind d 1 1 1 0 0 = 1
            isSpare 0 = IndexOutOfBoundsException
            addCell 0 = 0
            addCell 1 = 1
            isSpare 2 = IndexOutOfBoundsException
            isSpare -1 = IndexOutOfBoundsException
            isSpare 0 = false
            place 0 0 0 false = -1
            isSpare 0 = true
            place 1 5 0 false = -1
            isSpare 1 = true
            addInput 0 = 1
            connect 1 0 1 = -1
            isSpare 1 = false
            connect 0 1 1 = -1
            isSpare 0 = false
            addCell 0 = 2
            place 2 8 0 false = -1
            isSpare 2 = true
            addOutput 2 0 = 0
            isSpare 2 = false
            """;

    private static final String OPENS = """
            opens = 0
            addKind b 4 1 1 0 0 = 0
            addInput 0 = 0
            opens = 0
            addCell 0 = 0
            connect 0 0 0 = -1
            # a pin without a place is left out
            opens = 0
            place 0 10 0 false = -1
            opens = 1
            addShape 0 0 0 0 9 0 = 0
            opens = 1
            addShape 0 0 0 0 10 0 = 1
            opens = 0
            removeShape 1 = 0
            opens = 1
            # shapes of other nets do not join, nor do those on other tracks, unless a pin is there
            addShape 0 0 0 9 10 1 = 1
            opens = 1
            addShape 0 0 1 8 10 0 = 2
            opens = 1
            addShape 0 0 0 8 10 0 = 3
            opens = 0
            # two pins at one place
            addOutput 1 3 = 0
            opens = 2
            addCell 0 = 1
            connect 1 0 1 = -1
            place 1 20 4 true = -1
            opens = 2
            place 1 20 3 true = 116
            opens = 2
            addShape 0 3 3 13 23 1 = 0
            addShape 1 13 0 0 3 1 = 1
            opens = 1
            """;

    private static final String JOINED = """
            addKind d 1 1 1 0 0 = 0
            addInput 0 = 0
            addOutput 0 2 = 0
            addShape 0 0 2 0 12 0 = 0
            addShape 1 12 1 0 2 0 = 1
            addShape 0 2 0 12 23 0 = 2
            opens = 0
            removeShape 1 = 0
            opens = 1
            addShape 1 12 1 1 2 0 = 2
            opens = 1
            addShape 1 12 2 0 1 0 = 3
            # on tracks 1 and 2 the two of the site are not joined
            opens = 1
            addShape 1 12 2 1 2 0 = 4
            opens = 0
            removeShape 4 = 0
            # a pin joins what has its place
            addCell 0 = 0
            connect 0 0 0 = -1
            place 0 12 1 false = -1
            addShape 0 0 2 0 12 0 = 0
            addShape 0 2 0 12 23 0 = 1
            addShape 1 12 1 1 2 0 = 2
            addShape 1 12 2 0 1 0 = 3
            opens = 0
            place 0 13 1 false = 36
            addShape 0 0 2 0 12 0 = 0
            addShape 0 2 0 12 23 0 = 1
            addShape 1 12 1 1 2 0 = 2
            addShape 1 12 2 0 1 0 = 3
            addShape 0 1 2 12 13 0 = 4
            # the one along row 1 joins both and the pin
            opens = 0
            # a shape that goes nowhere does no harm
            addShape 0 5 2 12 13 0 = 5
            opens = 0
            # one that only crosses a net of its own beside its end does not join
            removeShape 4 = 0
            addShape 0 1 2 13 14 0 = 5
            opens = 1
            """;

    private static final String SHORTS = """
            shorts = 0
            addInput 0 = 0
            addInput 0 = 1
            addInput 0 = 2
            addShape 0 1 0 0 5 0 = 0
            addShape 0 1 0 6 9 1 = 1
            shorts = 0
            addShape 0 1 1 0 9 1 = 2
            addShape 0 2 0 0 9 1 = 3
            addShape 1 1 0 0 5 1 = 4
            shorts = 0
            # the end is in common
            addShape 0 1 0 5 6 0 = 5
            shorts = 1
            # the same pair once more, then others
            addShape 0 1 1 2 3 0 = 6
            shorts = 1
            addShape 0 1 1 2 3 2 = 7
            shorts = 3
            isAsDrawn = false
            removeShape 5 = 0
            shorts = 3
            removeShape 5 = 0
            shorts = 1
            addShape 1 1 0 4 5 2 = 6
            shorts = 1
            """;

    private static final String AS_DRAWN = """
            isAsDrawn = true
            addInput 0 = 0
            addInput 1 = 1
            addOutput 0 0 = 0
            isAsDrawn = false
            opens = 1
            addShape 0 0 0 0 23 0 = 0
            isAsDrawn = true
            addShape 0 0 1 0 23 1 = 1
            isAsDrawn = true
            addShape 0 0 0 0 1 1 = 2
            isAsDrawn = false
            opens = 0
            shorts = 1
            isSound = true
            """;
}
