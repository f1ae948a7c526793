/**
 * Each number that a call takes, and each letter: the least and the greatest one that is allowed answer as is due on
 * a chip with everything, and the first ones outside, and far away, are refused and change nothing.
 */
public final class RangesTest {
    private static final int[] FAR = {Integer.MIN_VALUE, -1000, 1000, Integer.MAX_VALUE};
    private static int wrong;

    private RangesTest() {
    }

    public static void main(String[] args) {
        int rows = 0;
        for (String row : RANGES.split("\n")) {
            String line = row.strip();
            if (!line.isEmpty()) {
                rows++;
                checkRange(line);
            }
        }
        checkLetters("2 addKind, types", "addKind ? 1 1 1 1 1", "binoxlfd");
        checkLetters("41 shapeAt, letters", "shapeAt 0 ?", "litaznm");
        checkLetters("45 breaches, rules", "breaches ?", "sadtl");
        System.out.println(wrong == 0 ? rows + " ranges and 3 sets of letters hold" : wrong + " wrong answers");
        if (wrong > 0) {
            System.exit(1);
        }
    }

    /** A row: title, call with "?" for the number, the least one and its answer, the greatest one likewise, what else. */
    private static void checkRange(String row) {
        String[] parts = row.split(" ; ");
        String call = parts[1];
        int least = numberOf(parts[2]);
        int greatest = numberOf(parts[3]);
        allow(parts[0], call, least, answerOf(parts[2]));
        allow(parts[0], call, greatest, answerOf(parts[3]));
        refuse(parts[0], call, least - 1, parts[4]);
        refuse(parts[0], call, greatest + 1, parts[4]);
        for (int far : FAR) {
            if (far < least || far > greatest) {
                refuse(parts[0], call, far, parts[4]);
            }
        }
    }

    private static int numberOf(String end) {
        return Integer.parseInt(end.split(" = ")[0]);
    }

    private static String answerOf(String end) {
        return end.split(" = ")[1];
    }

    private static void allow(String title, String call, int number, String answer) {
        wrong += Script.run(title, CHIP + call.replace("?", "" + number) + " = " + answer);
    }

    private static void refuse(String title, String call, int number, String exception) {
        wrong += Script.run(title, CHIP + call.replace("?", "" + number) + " = " + exception + "Exception");
    }

    /** All signs that there are; those beside the allowed ones are seen to change nothing. */
    private static void checkLetters(String title, String call, String allowed) {
        CellrowWorks chip = new CellrowWorks();
        chip.addInput(0);
        chip.addShape(0, 0, 0, 0, 1, 0);
        for (int sign = 0; sign <= Character.MAX_VALUE; sign++) {
            boolean isAllowed = allowed.indexOf(sign) >= 0;
            Object[] args = call.startsWith("addKind") ? new Object[] {(char) sign, 1, 1, 1, 1, 1}
                    : call.startsWith("shapeAt") ? new Object[] {0, (char) sign} : new Object[] {(char) sign};
            String answer = Calls.answer(chip, call.split(" ")[0], args);
            if (isAllowed ? answer.startsWith("throws") : !answer.equals("throws IllegalArgumentException")) {
                wrong++;
                System.out.println(title + ": the sign " + sign + " answered " + answer);
            }
        }
        for (char letter : allowed.toCharArray()) {
            for (char beside : new char[] {(char) (letter - 1), (char) (letter + 1), (char) (letter - 32)}) {
                if (allowed.indexOf(beside) < 0) {
                    wrong += Script.run(title, CHIP + call.replace('?', beside) + " = IllegalArgumentException");
                }
            }
        }
    }

    /** A chip with everything: kinds of all types, cells in rows, two spare, a tree, a chain, wires and shapes. */
    private static final String CHIP = """
            addKind n 2 2 3 40 10
            addKind f 3 4 2 20 12
            addKind b 1 8 1 5 4
            addKind d 1 1 2 3 0
            addKind i 2 3 2 9 6
            addKind i 2 5 2 19 5
            addKind l 1 4 2 7 8
            addInput 0
            addInput 3
            addCell 0
            addCell 1
            addCell 1
            addCell 4
            addCell 3
            addCell 2
            addCell 4
            connect 0 0 0
            connect 0 1 3
            connect 1 0 2
            connect 2 0 3
            connect 3 0 4
            connect 4 0 0
            connect 5 0 1
            addOutput 5 2
            addOutput 6 4
            block 18 5 2 1
            wish 0 4 0
            wish 1 6 0
            wish 2 7 1
            wish 3 8 2
            wish 4 9 3
            wish 5 3 3
            wish 6 21 5
            legalize 0
            legalize 1
            legalize 2
            legalize 3
            legalize 5
            place 2 7 1 true
            setPeriod 90
            setFalse 6 true
            setCycles 1 2
            setDerate 10
            setSkew 1 3
            setDomain 3 1
            setRules 2 1 90 20
            setCapacity 2 2
            tree
            scan
            route
            reroute 2
            detail 2
            addShape 0 5 1 3 9 2
            """;

    private static final String RANGES = """
            2 addKind, width 1 to 4 ; addKind b ? 1 1 1 1 ; 1 = 7 ; 4 = 7 ; IllegalArgument
            2 addKind, drive 1 to 9 ; addKind b 1 ? 1 1 1 ; 1 = 7 ; 9 = 7 ; IllegalArgument
            2 addKind, load 1 to 9 ; addKind b 1 1 ? 1 1 ; 1 = 7 ; 9 = 7 ; IllegalArgument
            2 addKind, leak 0 to 99 ; addKind b 1 1 1 ? 1 ; 0 = 7 ; 99 = 7 ; IllegalArgument
            2 addKind, delay 0 to 99 ; addKind b 1 1 1 1 ? ; 0 = 7 ; 99 = 7 ; IllegalArgument
            3 addCell, kinds that there are ; addCell ? ; 0 = 7 ; 6 = 7 ; IndexOutOfBounds
            4 addInput, row 0 to 5 ; addInput ? ; 0 = 8 ; 5 = 8 ; IllegalArgument
            5 addOutput, nets that there are ; addOutput ? 0 ; 0 = 2 ; 7 = 2 ; IndexOutOfBounds
            5 addOutput, row 0 to 5 ; addOutput 0 ? ; 0 = 2 ; 5 = 2 ; IllegalArgument
            6 netOf, cells that there are ; netOf ? ; 0 = 2 ; 6 = 7 ; IndexOutOfBounds
            7 connect, cells that there are ; connect ? 0 1 ; 0 = 0 ; 6 = -1 ; IndexOutOfBounds
            7 connect, two inputs of n ; connect 0 ? 0 ; 0 = 0 ; 1 = 3 ; IndexOutOfBounds
            7 connect, one input of f ; connect 1 ? 0 ; 0 = 2 ; 0 = 2 ; IndexOutOfBounds
            7 connect, one input of i ; connect 3 ? 0 ; 0 = 4 ; 0 = 4 ; IndexOutOfBounds
            7 connect, one input of d ; connect 4 ? 1 ; 0 = 0 ; 0 = 0 ; IndexOutOfBounds
            7 connect, one input of b ; connect 5 ? 0 ; 0 = 1 ; 0 = 1 ; IndexOutOfBounds
            7 connect, nets that there are ; connect 1 0 ? ; 0 = 2 ; 7 = 2 ; IndexOutOfBounds
            8 setKind, cells that there are ; setKind ? 4 ; 0 = UnsupportedOperationException ; 6 = 4 ; IndexOutOfBounds
            8 setKind, kinds that there are ; setKind 0 ? ; 0 = 0 ; 6 = UnsupportedOperationException ; IndexOutOfBounds
            9 value, nets that there are ; value ? 1 0 ; 0 = 1 ; 7 = 1 ; IndexOutOfBounds
            10 block, x 0 to 23 ; block ? 0 1 0 ; 0 = 1 ; 23 = 1 ; IllegalArgument
            10 block, row 0 to 5 ; block 0 ? 1 0 ; 0 = 1 ; 5 = 5 ; IllegalArgument
            10 block, width 1 to 24 ; block 0 0 ? 0 ; 1 = 1 ; 24 = 24 ; IllegalArgument
            10 block, halo 0 to 3 ; block 10 0 1 ? ; 0 = 1 ; 3 = 7 ; IllegalArgument
            10 block, the width goes not beyond the row ; block 20 0 ? 0 ; 1 = 1 ; 4 = 4 ; IllegalArgument
            10 block, the width goes not beyond the row, by x ; block ? 0 4 3 ; 0 = 7 ; 20 = 7 ; IllegalArgument
            11 place, cells that there are ; place ? 10 4 false ; 0 = 4 ; 6 = 141 ; IndexOutOfBounds
            11 place, x 0 to 23 ; place 5 ? 4 false ; 0 = 75 ; 23 = 75 ; IllegalArgument
            11 place, row 0 to 5 ; place 5 12 ? false ; 0 = 75 ; 5 = 75 ; IllegalArgument
            12 placeOf, cells that there are ; placeOf ? ; 0 = 4 ; 6 = 141 ; IndexOutOfBounds
            13 wish, cells that there are ; wish ? 3 3 ; 0 = 4 ; 6 = 141 ; IndexOutOfBounds
            13 wish, x 0 to 23 ; wish 1 ? 3 ; 0 = 6 ; 23 = 6 ; IllegalArgument
            13 wish, row 0 to 5 ; wish 1 3 ? ; 0 = 6 ; 5 = 6 ; IllegalArgument
            14 legalize, row 0 to 5 ; legalize ? ; 0 = 0 ; 5 = 0 ; IllegalArgument
            16 length, nets that there are ; length ? ; 0 = 12 ; 7 = 0 ; IndexOutOfBounds
            18 setPeriod, 1 to 999 ; setPeriod ? ; 1 = 90 ; 999 = 90 ; IllegalArgument
            19 setFalse, cells that there are ; setFalse ? true ; 0 = false ; 6 = true ; IndexOutOfBounds
            20 setCycles, cells that there are ; setCycles ? 2 ; 0 = UnsupportedOperationException ; 6 = UnsupportedOperationException ; IndexOutOfBounds
            20 setCycles, 1 to 4 ; setCycles 1 ? ; 1 = 2 ; 4 = 2 ; IllegalArgument
            21 setDerate, 0 to 50 ; setDerate ? ; 0 = 10 ; 50 = 10 ; IllegalArgument
            22 late, nets that there are ; late ? 1 ; 0 = 0 ; 7 = -1 ; IndexOutOfBounds
            22 late, corner 0 to 2 ; late 2 ? ; 0 = 26 ; 2 = 39 ; IllegalArgument
            23 early, nets that there are ; early ? 1 ; 0 = 0 ; 7 = -1 ; IndexOutOfBounds
            23 early, corner 0 to 2 ; early 2 ? ; 0 = 9 ; 2 = 14 ; IllegalArgument
            24 slack, cells that there are ; slack ? 1 true ; 0 = UnsupportedOperationException ; 6 = UnsupportedOperationException ; IndexOutOfBounds
            24 slack, corner 0 to 2, late ; slack 1 ? false ; 0 = 157 ; 2 = 144 ; IllegalArgument
            24 slack, corner 0 to 2, early ; slack 1 ? true ; 0 = 3 ; 2 = 8 ; IllegalArgument
            25 slackOut, outputs that there are ; slackOut ? 1 ; 0 = 63 ; 1 = 83 ; IndexOutOfBounds
            25 slackOut, corner 0 to 2 ; slackOut 0 ? ; 0 = 70 ; 2 = 59 ; IllegalArgument
            26 worst, corner 0 to 2 ; worst ? ; 0 = 70 ; 2 = 59 ; IllegalArgument
            27 worstAnew, corner 0 to 2 ; worstAnew ? ; 0 = 70 ; 2 = 59 ; IllegalArgument
            28 buffer, nets that there are ; buffer ? 2 12 0 ; 0 = 65 ; 7 = UnsupportedOperationException ; IndexOutOfBounds
            28 buffer, kinds that there are ; buffer 0 ? 12 0 ; 0 = UnsupportedOperationException ; 6 = UnsupportedOperationException ; IndexOutOfBounds
            28 buffer, x 0 to 23 ; buffer 0 2 ? 4 ; 0 = 65 ; 23 = 65 ; IllegalArgument
            28 buffer, row 0 to 5 ; buffer 0 2 12 ? ; 0 = 65 ; 5 = 65 ; IllegalArgument
            31 latency, cells that there are ; latency ? ; 0 = UnsupportedOperationException ; 6 = UnsupportedOperationException ; IndexOutOfBounds
            32 common, cells that there are ; common ? 1 ; 0 = UnsupportedOperationException ; 6 = UnsupportedOperationException ; IndexOutOfBounds
            32 common, others that there are ; common 1 ? ; 0 = UnsupportedOperationException ; 6 = UnsupportedOperationException ; IndexOutOfBounds
            33 setSkew, cells that there are ; setSkew ? 1 ; 0 = UnsupportedOperationException ; 6 = UnsupportedOperationException ; IndexOutOfBounds
            33 setSkew, -9 to 9 ; setSkew 1 ? ; -9 = 3 ; 9 = 3 ; IllegalArgument
            34 setCapacity, across 1 to 9 ; setCapacity ? 1 ; 1 = 22 ; 9 = 22 ; IllegalArgument
            34 setCapacity, down 1 to 9 ; setCapacity 1 ? ; 1 = 22 ; 9 = 22 ; IllegalArgument
            36 reroute, rounds 1 to 9 ; reroute ? ; 1 = 0 ; 9 = 0 ; IllegalArgument
            37 routed, nets that there are ; routed ? ; 0 = 12 ; 7 = 0 ; IndexOutOfBounds
            38 usage, x 0 to 22 along a row ; usage ? 0 true ; 0 = 1 ; 22 = 0 ; IllegalArgument
            38 usage, x 0 to 23 to the next row ; usage ? 0 false ; 0 = 0 ; 23 = 0 ; IllegalArgument
            38 usage, row 0 to 5 along a row ; usage 0 ? true ; 0 = 1 ; 5 = 0 ; IllegalArgument
            38 usage, row 0 to 4 to the next row ; usage 0 ? false ; 0 = 0 ; 4 = 0 ; IllegalArgument
            39 detail, gap 1 to 4 ; detail ? ; 1 = 0 ; 4 = 2 ; IllegalArgument
            41 shapeAt, shapes that there are ; shapeAt ? n ; 0 = 0 ; 10 = 2 ; IndexOutOfBounds
            42 addShape, layer 0 and 1 ; addShape ? 0 0 0 1 0 ; 0 = 11 ; 1 = 11 ; IllegalArgument
            42 addShape, row 0 to 5 ; addShape 0 ? 0 0 1 0 ; 0 = 11 ; 5 = 11 ; IllegalArgument
            42 addShape, site 0 to 23 ; addShape 1 ? 0 0 1 0 ; 0 = 11 ; 23 = 11 ; IllegalArgument
            42 addShape, tracks of a row ; addShape 0 0 ? 0 1 0 ; 0 = 11 ; 1 = 11 ; IllegalArgument
            42 addShape, tracks of a site ; addShape 1 0 ? 0 1 0 ; 0 = 11 ; 1 = 11 ; IllegalArgument
            42 addShape, from 0 to 22 along a row ; addShape 0 0 0 ? 23 0 ; 0 = 11 ; 22 = 11 ; IllegalArgument
            42 addShape, from 0 to 4 along a site ; addShape 1 0 0 ? 5 0 ; 0 = 11 ; 4 = 11 ; IllegalArgument
            42 addShape, to 1 to 23 along a row ; addShape 0 0 0 0 ? 0 ; 1 = 11 ; 23 = 11 ; IllegalArgument
            42 addShape, to 1 to 5 along a site ; addShape 1 0 0 0 ? 0 ; 1 = 11 ; 5 = 11 ; IllegalArgument
            42 addShape, it ends behind where it begins ; addShape 0 0 0 9 ? 0 ; 10 = 11 ; 23 = 11 ; IllegalArgument
            42 addShape, it begins ahead of where it ends ; addShape 0 0 0 ? 9 0 ; 0 = 11 ; 8 = 11 ; IllegalArgument
            42 addShape, nets that there are ; addShape 0 0 0 0 1 ? ; 0 = 11 ; 7 = 11 ; IndexOutOfBounds
            43 removeShape, shapes that there are ; removeShape ? ; 0 = 0 ; 10 = 2 ; IndexOutOfBounds
            44 setRules, least 1 to 9 ; setRules ? 0 100 99 ; 1 = 2 ; 9 = 2 ; IllegalArgument
            44 setRules, low 0 to 100 ; setRules 1 ? 100 99 ; 0 = 2 ; 100 = 2 ; IllegalArgument
            44 setRules, high 0 to 100 ; setRules 1 0 ? 99 ; 0 = 2 ; 100 = 2 ; IllegalArgument
            44 setRules, low not greater than high ; setRules 1 ? 50 99 ; 0 = 2 ; 50 = 2 ; IllegalArgument
            44 setRules, high not less than low ; setRules 1 60 ? 99 ; 60 = 2 ; 100 = 2 ; IllegalArgument
            44 setRules, antenna 1 to 99 ; setRules 1 0 100 ? ; 1 = 2 ; 99 = 2 ; IllegalArgument
            47 coupling, nets that there are ; coupling ? 1 ; 0 = 0 ; 7 = 0 ; IndexOutOfBounds
            47 coupling, others that there are ; coupling 1 ? ; 0 = 0 ; 7 = 0 ; IndexOutOfBounds
            48 delta, nets that there are ; delta ? ; 0 = 0 ; 7 = 0 ; IndexOutOfBounds
            49 drop, cells that there are ; drop ? ; 0 = 22 ; 6 = 7 ; IndexOutOfBounds
            50 setDomain, cells that there are ; setDomain ? 1 ; 0 = 0 ; 6 = 0 ; IndexOutOfBounds
            50 setDomain, 0 and 1 ; setDomain 3 ? ; 0 = 1 ; 1 = 1 ; IllegalArgument
            52 scanAt, what the chain has ; scanAt ? ; 0 = 1 ; 1 = 2 ; NoSuchElement
            54 change, cells that there are ; change ? 6 ; 0 = UnsupportedOperationException ; 6 = UnsupportedOperationException ; IndexOutOfBounds
            54 change, spare cells that there are ; change 3 ? ; 0 = UnsupportedOperationException ; 6 = 1 ; IndexOutOfBounds
            55 isSpare, cells that there are ; isSpare ? ; 0 = false ; 6 = true ; IndexOutOfBounds
            """;
}
