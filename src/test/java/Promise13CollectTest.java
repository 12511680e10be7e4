/** Promise 13: collect copies a block's valid nodes to other blocks and clears it. */
final class Promise13CollectTest {
    private static final Check C = new Check();

    private static void nothingToCollect() {
        NodeLogFlash x = new NodeLogFlash();
        C.due("collect()", x.collect(), NodeLogFlash.OFF);
        x.mount();
        C.due("collect() on an empty flash", x.collect(), 0);
        x.make(1, 1, false);
        x.write(2, 0, 6, 1);
        C.due("collect() without dead words", x.collect(), 0);
        C.due("operations()", x.operations(), 18 + 15);
    }

    private static void copiesInTheOrderOfPlaces() {
        NodeLogFlash x = Check.mounted();
        x.make(1, 1, false);
        x.write(2, 0, 2, 10);
        x.make(1, 2, false);
        x.write(2, 0, 2, 20);
        C.due("freeWords(0)", x.freeWords(0), 1);
        int before = x.operations();
        C.due("collect()", x.collect(), 6);
        C.due("operations()", x.operations(), before + 5 + 5 + 6 + 3);
        C.dueNode("the first", x, 25, 0x5D810005, 1, 65537, 2);
        C.dueNode("the second", x, 30, 0x5D810005, 3, 65538, 3);
        C.dueNode("the third", x, 35, 0x5D820006, 4, 65536 * 2, 20, 21);
        C.due("the block is cleared", x.peek(0), 6533);
        for (int p = 1; p < 24; p++) {
            C.due("peek(" + p + ")", x.peek(p), -1);
        }
        C.due("read(2, 1)", x.read(2, 1), 21);
        C.due("write: versions go on", x.write(2, 0, 1, 1), 5);
        C.due("it goes behind the copies", x.freeWords(1), 23 - 16 - 5);
        C.due("freeWords(0)", x.freeWords(0), 23);
    }

    /** Three files and their data, so that three blocks have dead words. */
    private static NodeLogFlash withDeadWords() {
        NodeLogFlash x = Check.mounted();
        x.make(1, 1, false);
        x.write(2, 0, 6, 10);
        x.write(2, 6, 4, 20);
        x.make(1, 2, false);
        x.write(3, 0, 6, 30);
        x.write(3, 6, 4, 40);
        x.make(1, 3, false);
        x.write(4, 0, 6, 50);
        x.write(4, 6, 4, 60);
        for (int b = 0; b < 3; b++) {
            C.due("freeWords(" + b + ")", x.freeWords(b), 0);
        }
        return x;
    }

    private static void mostDeadWordsAreTaken() {
        NodeLogFlash x = withDeadWords();
        x.write(2, 6, 4, 21);
        x.write(3, 0, 6, 31);
        x.write(4, 6, 4, 61);
        C.due("collect()", x.collect(), 10);
        C.due("block 1 was taken", x.freeWords(1), 23);
        C.due("collect(): of equal ones the lowest", x.collect(), 8);
        C.due("block 0 was taken", x.freeWords(0), 23);
        C.due("collect()", x.collect(), 8);
        C.due("block 2 was taken", x.freeWords(2), 23);
        C.due("collect()", x.collect(), 0);
        C.due("read(2, 9)", x.read(2, 9), 24);
        C.due("read(3, 5)", x.read(3, 5), 36);
        C.due("read(4, 9)", x.read(4, 9), 64);
        C.due("read(4, 5)", x.read(4, 5), 55);
    }

    private static void aBlockWithoutValidNodes() {
        NodeLogFlash x = Check.mounted();
        x.make(1, 1, false);
        x.write(2, 0, 6, 1);
        x.remove(1, 1);
        int before = x.operations();
        C.due("collect()", x.collect(), 15);
        C.due("operations(): it is only cleared", x.operations(), before + 3);
        C.due("freeWords(0)", x.freeWords(0), 23);
    }

    /** The last empty block may be used here, though not by a call that appends. */
    private static void intoTheLastEmptyBlock() {
        NodeLogFlash x = Check.mounted();
        x.make(1, 1, false);
        for (int i = 2; i <= 10; i++) {
            x.write(2, 0, 6, i);
        }
        C.due("write", x.write(2, 0, 6, 99), NodeLogFlash.FULL);
        C.due("collect(): blocks 1 .. 3 have 20, 1 is taken", x.collect(), 20);
        C.due("nothing was copied", x.freeWords(5), 23);
        C.due("collect()", x.collect(), 20);
        C.due("collect()", x.collect(), 20);
        C.due("collect(): block 0 or 4 has 10", x.collect(), 10);
        C.due("its link goes behind a node if there is room", x.freeWords(4), 3);
        C.due("block 0 was taken", x.freeWords(0), 23);
        C.due("so it was copied to an empty one", x.freeWords(1), 18);
        C.due("collect()", x.collect(), 10);
        C.due("read(2, 0)", x.read(2, 0), 10);
    }

    /** Once a node was placed in an empty block, that block is one with a node for the next. */
    private static void eachPlacedNodeCountsForTheNext() {
        NodeLogFlash x = Check.mounted();
        x.make(1, 1, false);
        x.write(2, 0, 6, 1);
        x.write(2, 6, 4, 1);
        x.make(1, 2, false);
        x.write(3, 0, 4, 10);
        x.make(1, 3, false);
        x.make(1, 4, false);
        x.move(1, 2, 1, 5);
        x.write(3, 4, 2, 20);
        x.write(3, 6, 2, 30);
        C.due("freeWords(1)", x.freeWords(1), 0);
        C.due("freeWords(2)", x.freeWords(2), 6);
        x.remove(1, 1);
        C.due("collect()", x.collect(), 23);
        C.due("freeWords(0)", x.freeWords(0), 23);
        C.due("collect()", x.collect(), 5);
        C.due("all three went to block 0", x.freeWords(0), 5);
        C.due("freeWords(2)", x.freeWords(2), 6);
        C.due("the data is first", x.peek(1), 0x5D820008);
        C.due("then a link", x.peek(9), 0x5D810005);
        C.due("then the other", x.peek(14), 0x5D810005);
    }

    private static void noneCanBeServed() {
        NodeLogFlash x = Check.noEmptyBlock();
        C.due("write 6", x.write(2, 0, 6, 500), 16);
        C.due("write 4", x.write(2, 6, 4, 600), 17);
        int[] dead = {18, 0, 0, 0, 10, 5};
        for (int b = 0; b < 6; b++) {
            C.due("deadWords(" + b + ")", x.deadWords(b), dead[b]);
            C.due("freeWords(" + b + ")", x.freeWords(b), 0);
        }
        int before = x.operations();
        C.due("collect(): no node has a place elsewhere", x.collect(), 0);
        C.due("operations()", x.operations(), before);
        C.due("remove(1, 5): the last nodes of block 4 go", x.remove(1, 5), 6);
        C.due("collect()", x.collect(), 23);
        C.due("freeWords(4)", x.freeWords(4), 23);
        C.due("collect(): now block 0 can be served", x.collect(), 18);
        C.due("its link lies in block 4", x.freeWords(4), 18);
        C.due("collect(): into block 4, as it has a node and room", x.collect(), 5);
        C.due("freeWords(4)", x.freeWords(4), 0);
        C.due("freeWords(0)", x.freeWords(0), 23);
    }

    /** A node goes to the lowest block that has a node and room for it, wherever the one before it went. */
    private static void eachNodeHasItsOwnPlace() {
        NodeLogFlash x = Check.noEmptyBlock();
        C.due("write 4", x.write(2, 6, 4, 600), 16);
        C.due("write 1", x.write(2, 13, 1, 700), 17);
        C.due("freeWords(5)", x.freeWords(5), 5);
        C.due("deadWords(0)", x.deadWords(0), 18);
        C.due("remove(1, 5)", x.remove(1, 5), 6);
        C.due("deadWords(4)", x.deadWords(4), 13);
        C.due("collect(): block 0's link fits", x.collect(), 18);
        C.due("freeWords(5)", x.freeWords(5), 0);
        C.due("collect(): block 4's data goes to block 0", x.collect(), 13);
        C.due("freeWords(0)", x.freeWords(0), 13);

        NodeLogFlash y = Check.noEmptyBlock();
        C.due("write 4", y.write(3, 12, 4, 600), 16);
        C.due("write 1", y.write(2, 13, 1, 700), 17);
        C.due("freeWords(5)", y.freeWords(5), 5);
        C.due("remove(1, 4)", y.remove(1, 4), 5);
        C.due("deadWords(3)", y.deadWords(3), 23);
        C.due("collect()", y.collect(), 23);
        C.due("write 6", y.write(2, 0, 6, 1), NodeLogFlash.FULL);
        C.due("deadWords(0)", y.deadWords(0), 10);
        C.due("collect(): its link to block 5, its data to block 3", y.collect(), 10);
        C.due("freeWords(5)", y.freeWords(5), 0);
        C.due("freeWords(3)", y.freeWords(3), 15);
    }

    private static void passesOverWhatCannotBeServed() {
        NodeLogFlash x = States.mostDeadCannotBeServed();
        int[] dead = {12, 15, 9, 9, 9, 8};
        int[] free = {6, 0, 5, 5, 5, 6};
        for (int b = 0; b < 6; b++) {
            C.due("deadWords(" + b + ")", x.deadWords(b), dead[b]);
            C.due("freeWords(" + b + ")", x.freeWords(b), free[b]);
        }
        C.due("collect(): 8 words of block 1 have no place", x.collect(), 12);
        C.due("freeWords(0)", x.freeWords(0), 23);
        C.due("freeWords(1)", x.freeWords(1), 0);
        C.due("freeWords(2)", x.freeWords(2), 0);
        C.dueNode("the link's copy", x, 67, 0x5D810005, 1, 65537, 2);
        C.due("collect(): now there is an empty block", x.collect(), 15);
        C.due("freeWords(0)", x.freeWords(0), 15);
        C.due("freeWords(1)", x.freeWords(1), 23);
        C.due("read(2, 0)", x.read(2, 0), 10);
    }

    private static void otherBlocksStayAsTheyAre() {
        NodeLogFlash x = withDeadWords();
        x.make(1, 4, false);
        x.write(5, 0, 6, 70);
        x.write(5, 6, 4, 80);
        x.make(1, 5, false);
        x.write(6, 0, 6, 90);
        x.remove(1, 4);
        C.due("deadWords(3)", x.deadWords(3), 23);
        x.write(6, 6, 4, 95);
        C.due("freeWords(4)", x.freeWords(4), 0);
        C.due("freeWords(5)", x.freeWords(5), 23);
        int[] before = Check.words(x);
        C.due("write", x.write(2, 0, 1, 1), NodeLogFlash.FULL);
        C.due("collect()", x.collect(), 23);
        C.due("freeWords(3)", x.freeWords(3), 23);
        for (int p = 0; p < 144; p++) {
            if (p < 72 || p >= 96) {
                C.due("peek(" + p + ")", x.peek(p), before[p]);
            }
        }
        C.due("collect()", x.collect(), 0);
    }

    private static void cuts() {
        for (int n = 0; n <= 19; n++) {
            NodeLogFlash x = Check.mounted();
            x.make(1, 1, false);
            x.write(2, 0, 2, 10);
            x.make(1, 2, false);
            x.write(2, 0, 2, 20);
            int before = x.operations();
            x.arm(n);
            C.due("collect() cut after " + n, x.collect(), n < 19 ? NodeLogFlash.CUT : 6);
            C.due("operations()", x.operations(), before + n);
            C.due("freeWords(0)", x.freeWords(0), n < 17 ? 1 : n < 19 ? -1 : 23);
            C.due("mount()", x.mount(), 3);
            C.due("entry(1, 1)", x.entry(1, 1), 2);
            C.due("entry(1, 2)", x.entry(1, 2), 3);
            C.due("read(2, 0)", x.read(2, 0), 20);
            C.due("read(2, 1)", x.read(2, 1), 21);
        }
    }

    public static void main(String[] args) {
        nothingToCollect();
        copiesInTheOrderOfPlaces();
        mostDeadWordsAreTaken();
        aBlockWithoutValidNodes();
        intoTheLastEmptyBlock();
        eachPlacedNodeCountsForTheNext();
        noneCanBeServed();
        eachNodeHasItsOwnPlace();
        passesOverWhatCannotBeServed();
        otherBlocksStayAsTheyAre();
        cuts();
        C.end();
    }
}
