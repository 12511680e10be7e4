/** Promise 8: write appends data and answers its version. */
final class Promise08WriteTest {
    private static final Check C = new Check();

    private static NodeLogFlash withFile() {
        NodeLogFlash x = Check.mounted();
        x.make(1, 1, false);
        return x;
    }

    private static void appendsData() {
        NodeLogFlash x = withFile();
        C.due("write(2, 5, 3, 70)", x.write(2, 5, 3, 70), 2);
        C.dueNode("3 cells", x, 6, 0x5D820007, 2, 65536 * 2 + 5, 70, 71, 72);
        C.due("write(2, 15, 1, -1)", x.write(2, 15, 1, -1), 3);
        C.dueNode("1 cell", x, 13, 0x5D820005, 3, 65536 * 2 + 15, -1);
        C.due("write(2, 10, 6, MAX - 1)", x.write(2, 10, 6, Integer.MAX_VALUE - 1), 4);
        C.dueNode("6 cells, wrapping", x, 25, 0x5D82000A, 4, 65536 * 2 + 10, Integer.MAX_VALUE - 1,
            Integer.MAX_VALUE, Integer.MIN_VALUE, Integer.MIN_VALUE + 1, Integer.MIN_VALUE + 2, Integer.MIN_VALUE + 3);
        C.due("the data with cell 15 alone is marked", x.peek(13), 0x5D020005);
        C.due("operations()", x.operations(), 18 + 5 + 7 + 5 + 10 + 1);
    }

    private static void marksDataOfWhichNoCellIsSeen() {
        NodeLogFlash x = withFile();
        x.write(2, 0, 6, 100);
        C.due("a part is covered", x.write(2, 0, 3, 200), 3);
        C.due("deadWords(0)", x.deadWords(0), 0);
        C.due("another part", x.write(2, 4, 2, 300), 4);
        C.due("deadWords(0)", x.deadWords(0), 0);
        C.due("read(2, 3)", x.read(2, 3), 103);
        C.due("the last cell", x.write(2, 3, 1, 400), 5);
        C.due("deadWords(0)", x.deadWords(0), 10);
        C.due("deadWords(1)", x.deadWords(1), 0);
        C.due("read(2, 3)", x.read(2, 3), 400);
        C.due("read(2, 5)", x.read(2, 5), 301);
    }

    private static void filesApart() {
        NodeLogFlash x = withFile();
        x.make(1, 2, false);
        x.write(2, 0, 4, 10);
        C.due("write(3, 0, 4, 20)", x.write(3, 0, 4, 20), 4);
        C.due("deadWords(0)", x.deadWords(0), 0);
        C.due("read(2, 1)", x.read(2, 1), 11);
        C.due("read(3, 1)", x.read(3, 1), 21);
    }

    /** The lowest block with a node and room comes before one without a node. */
    private static void placing() {
        NodeLogFlash x = withFile();
        x.write(2, 0, 6, 1);
        C.due("freeWords(0)", x.freeWords(0), 8);
        x.write(2, 0, 5, 2);
        C.due("9 words do not fit in block 0", x.freeWords(1), 14);
        x.write(2, 0, 4, 3);
        C.due("8 words fit", x.freeWords(0), 0);
        C.due("block 1 is as it was", x.freeWords(1), 14);
        x.write(2, 0, 1, 4);
        C.due("block 0 has no word left", x.freeWords(1), 9);
        x.write(2, 0, 6, 5);
        C.due("10 words do not fit in block 1", x.freeWords(2), 13);
        x.write(2, 0, 5, 6);
        C.due("9 words fit", x.freeWords(1), 0);
    }

    private static void full() {
        NodeLogFlash x = withFile();
        for (int i = 2; i <= 10; i++) {
            C.due("write", x.write(2, 0, 6, i), i);
        }
        int before = x.operations();
        C.due("write: only the last empty block has room", x.write(2, 0, 6, 11), NodeLogFlash.FULL);
        C.due("operations()", x.operations(), before);
        C.due("peek(121)", x.peek(121), -1);
        C.due("MISSING comes first", x.write(3, 0, 6, 11), NodeLogFlash.MISSING);
        C.due("BAD comes first", x.write(2, 0, 7, 11), NodeLogFlash.BAD);
        C.due("8 words still fit", x.write(2, 0, 4, 11), 11);
        C.due("freeWords(0)", x.freeWords(0), 0);
    }

    /** The only block without a node may be any of them. */
    private static void fullButForBlockZero() {
        NodeLogFlash x = Check.fiveFullBlocks();
        C.due("collect(): block 0 goes to block 5", x.collect(), 10);
        C.due("write behind it", x.write(3, 10, 6, 1), 16);
        C.due("freeWords(5)", x.freeWords(5), 0);
        int before = x.operations();
        C.due("write: only block 0 is empty", x.write(3, 0, 1, 1), NodeLogFlash.FULL);
        C.due("make: only block 0 is empty", x.make(1, 6, false), NodeLogFlash.FULL);
        C.due("freeWords(0)", x.freeWords(0), 23);
        C.due("operations()", x.operations(), before);
    }

    private static void collectedAndFilledAgain() {
        NodeLogFlash x = withFile();
        for (int i = 2; i <= 10; i++) {
            x.write(2, 0, 6, i);
        }
        for (int i = 0; i < 3; i++) {
            C.due("collect()", x.collect(), 20);
        }
        C.due("collect(): block 0", x.collect(), 10);
        C.due("collect(): block 4", x.collect(), 10);
        C.due("freeWords(1)", x.freeWords(1), 8);
        for (int i = 11; i <= 16; i++) {
            C.due("write into blocks 0, 2 and 3", x.write(2, 0, 6, i), i);
        }
        C.due("freeWords(3)", x.freeWords(3), 3);
        C.due("write into block 4", x.write(2, 6, 6, 17), 17);
        C.due("write into block 4", x.write(2, 6, 6, 18), 18);
        C.due("freeWords(4)", x.freeWords(4), 3);
        C.due("write: only block 5 is empty", x.write(2, 0, 6, 19), NodeLogFlash.FULL);
        C.due("collect(): block 0", x.collect(), 20);
        C.due("freeWords(0)", x.freeWords(0), 23);
        C.due("write into block 0, as block 5 is empty too", x.write(2, 0, 6, 20), 19);
        C.due("freeWords(0)", x.freeWords(0), 13);
        C.due("freeWords(5)", x.freeWords(5), 23);
    }

    /** When no block is empty, what a cut collection left behind is a node with room behind it. */
    private static void noEmptyBlock() {
        NodeLogFlash x = Check.noEmptyBlock();
        C.due("freeWords(5)", x.freeWords(5), 18);
        C.due("write 6", x.write(2, 0, 6, 500), 16);
        C.due("freeWords(5)", x.freeWords(5), 8);
        C.due("write 6", x.write(2, 0, 6, 600), NodeLogFlash.FULL);
        C.due("write 4", x.write(2, 0, 4, 700), 17);
        C.due("freeWords(5)", x.freeWords(5), 0);
        C.due("write 1", x.write(2, 0, 1, 800), NodeLogFlash.FULL);
        C.due("read(2, 0)", x.read(2, 0), 700);
        C.due("read(2, 5)", x.read(2, 5), 505);
    }

    private static void refusals() {
        NodeLogFlash x = withFile();
        x.make(1, 2, true);
        int max = Integer.MAX_VALUE;
        int min = Integer.MIN_VALUE;
        int[][] bad = {
            {0, 0, 1}, {13, 0, 1}, {-1, 0, 1}, {min, 0, 1}, {max, 0, 1},
            {2, 0, 0}, {2, 0, 7}, {2, 0, -1}, {2, 0, min}, {2, 0, max},
            {2, -1, 1}, {2, min, 6}, {2, max, 1}, {2, max, 6}, {2, 16, 1}, {2, 15, 2}, {2, 11, 6},
            {9, 0, 7}, {9, 16, 1},
        };
        for (int[] b : bad) {
            String call = "write(" + b[0] + ", " + b[1] + ", " + b[2] + ", 1)";
            C.due(call, x.write(b[0], b[1], b[2], 1), NodeLogFlash.BAD);
        }
        C.due("the root", x.write(1, 0, 1, 1), NodeLogFlash.MISSING);
        C.due("a directory", x.write(3, 0, 1, 1), NodeLogFlash.MISSING);
        C.due("not there", x.write(12, 0, 1, 1), NodeLogFlash.MISSING);
        C.due("operations()", x.operations(), 28);
        C.due("the edge", x.write(2, 10, 6, 1), 3);
        Check.cutPower(x);
        C.due("OFF comes first", x.write(0, -1, 0, 1), NodeLogFlash.OFF);
    }

    private static void cuts() {
        for (int n = 0; n <= 8; n++) {
            NodeLogFlash x = withFile();
            x.write(2, 0, 3, 10);
            x.arm(n);
            C.due("write cut after " + n, x.write(2, 0, 3, 20), n < 8 ? NodeLogFlash.CUT : 3);
            C.due("operations()", x.operations(), 18 + 5 + 7 + n);
            C.due("mount()", x.mount(), 2);
            C.due("read(2, 2)", x.read(2, 2), n >= 7 ? 22 : 12);
            C.due("deadWords(0)", x.deadWords(0), n == 0 ? 0 : 7);
            x.arm(1000);
            C.due("write: the version", x.write(2, 0, 1, 5), n >= 7 ? 4 : 3);
        }
    }

    public static void main(String[] args) {
        appendsData();
        marksDataOfWhichNoCellIsSeen();
        filesApart();
        placing();
        full();
        fullButForBlockZero();
        collectedAndFilledAgain();
        noEmptyBlock();
        refusals();
        cuts();
        C.end();
    }
}
