/** The edges that the document names in 'Terms' for placing, for calls that append, and for the ranges. */
final class EdgesOfPlacingTest {
    private static final Check C = new Check();
    private static final Refused R = new Refused(C);

    /** Block 0 has nodes and that many free words (4 .. 10), nothing dead; the others are empty. */
    private static NodeLogFlash withFree(int free) {
        NodeLogFlash x = Check.mounted();
        x.make(1, 1, false);
        if (free >= 8) {
            x.write(2, 0, 14 - free, 1);
        } else {
            x.write(2, 0, 1, 1);
            x.write(2, 1, 9 - free, 1);
        }
        C.due("freeWords(0)", x.freeWords(0), free);
        return x;
    }

    private static void justEnoughFreeWords() {
        for (int s = 5; s <= 10; s++) {
            NodeLogFlash x = withFree(s);
            C.due("write of " + s + " words", x.write(2, 10, s - 4, 1) > 0, true);
            C.due("exactly " + s + " free words are enough", x.freeWords(0), 0);
            C.due("it begins behind the last node", x.peek(24 - s), 0x5D820000 + s);
            C.due("freeWords(1)", x.freeWords(1), 23);
            NodeLogFlash y = withFree(s - 1);
            C.due("write of " + s + " words", y.write(2, 10, s - 4, 1) > 0, true);
            C.due("one less is too little", y.freeWords(0), s - 1);
            C.due("freeWords(1)", y.freeWords(1), 23 - s);
        }
        NodeLogFlash x = withFree(5);
        C.due("a link with 5 free words", x.make(1, 2, false), 3);
        C.due("freeWords(0)", x.freeWords(0), 0);
        NodeLogFlash y = withFree(4);
        C.due("a link with 4 free words", y.make(1, 2, false), 3);
        C.due("freeWords(0)", y.freeWords(0), 4);
        C.due("freeWords(1)", y.freeWords(1), 18);
    }

    private static void lowestWithRoom() {
        NodeLogFlash x = withFree(8);
        x.write(2, 6, 5, 1);
        C.due("freeWords(1)", x.freeWords(1), 14);
        x.write(2, 6, 6, 1);
        C.due("10 words go to block 1", x.freeWords(1), 4);
        x.write(2, 11, 5, 1);
        C.due("9 words go to block 2", x.freeWords(2), 14);
        x.write(2, 11, 1, 1);
        C.due("5 words go to block 0", x.freeWords(0), 3);
        C.due("freeWords(2)", x.freeWords(2), 14);
        x.write(2, 11, 1, 1);
        C.due("5 words go to block 2", x.freeWords(2), 9);
    }

    /** Block 0 is empty, block 1 has one marked link and 18 free words: it is a block that has a node. */
    private static void aDeadNodeIsANode() {
        NodeLogFlash x = Check.mounted();
        x.make(1, 1, false);
        x.write(2, 0, 6, 1);
        x.write(2, 6, 4, 2);
        x.make(1, 2, false);
        x.remove(1, 1);
        C.due("collect()", x.collect(), 23);
        x.remove(1, 2);
        C.due("freeWords(0)", x.freeWords(0), 23);
        C.due("deadWords(1)", x.deadWords(1), 5);
        C.due("make", x.make(1, 1, false), 2);
        C.due("freeWords(0)", x.freeWords(0), 23);
        C.due("behind the marked link", x.peek(30), 0x5D810005);
    }

    private static void lowestBlockWithANode() {
        justEnoughFreeWords();
        lowestWithRoom();
        aDeadNodeIsANode();
    }

    /** Blocks 1, 4 and 5 are empty, the others are full. */
    private static void lowestBlockWithoutANode() {
        NodeLogFlash x = Check.mounted();
        for (int file = 2; file <= 5; file++) {
            x.make(1, file - 1, false);
            x.write(file, 0, 6, 1);
            x.write(file, 6, 4, 1);
        }
        x.remove(1, 2);
        C.due("collect()", x.collect(), 23);
        C.due("make", x.make(1, 9, false), 3);
        C.due("freeWords(1)", x.freeWords(1), 18);
        C.due("at its word 1", x.peek(25), 0x5D810005);
        C.due("freeWords(4)", x.freeWords(4), 23);
        C.due("freeWords(5)", x.freeWords(5), 23);
    }

    private static void wordsFromTheFirstToTheLast() {
        for (int n = 0; n <= 10; n++) {
            NodeLogFlash x = withFree(8);
            x.arm(n);
            x.write(2, 10, 6, 70);
            for (int i = 0; i < 10; i++) {
                C.due("word " + i + " after " + n + " operations", x.peek(25 + i) != -1, i < n);
            }
        }
    }

    /** All six blocks have nodes and less than five words are free in each. */
    private static NodeLogFlash noPlace() {
        NodeLogFlash x = Check.noEmptyBlock();
        x.write(2, 0, 6, 500);
        x.write(2, 0, 4, 700);
        return x;
    }

    private static void noPlaceAtAll() {
        for (int b = 0; b < 6; b++) {
            C.due("freeWords(" + b + ")", noPlace().freeWords(b), 0);
        }
        R.due("make", EdgesOfPlacingTest::noPlace, x -> x.make(1, 9, false), NodeLogFlash.FULL);
        R.due("move", EdgesOfPlacingTest::noPlace, x -> x.move(1, 1, 1, 9), NodeLogFlash.FULL);
        R.due("write", EdgesOfPlacingTest::noPlace, x -> x.write(2, 0, 1, 9), NodeLogFlash.FULL);
    }

    private static void onlyOneBlockWithoutANode() {
        R.due("make", States::full, x -> x.make(1, 9, false), NodeLogFlash.FULL);
        R.due("move", States::full, x -> x.move(1, 1, 1, 9), NodeLogFlash.FULL);
        for (int cells = 1; cells <= 6; cells++) {
            int n = cells;
            R.due("write of " + n, States::full, x -> x.write(2, 0, n, 9), NodeLogFlash.FULL);
        }
        NodeLogFlash y = States.full();
        C.due("freeWords(5), the only one", y.freeWords(5), 23);
        C.due("collect()", y.collect() > 0, true);
        C.due("make when there are two, or room behind a node", y.make(1, 9, false), 8);
    }

    /** Four full blocks: of the two without a node one may be used, the other not. */
    private static void twoBlocksWithoutANode() {
        NodeLogFlash x = Check.mounted();
        for (int file = 2; file <= 5; file++) {
            x.make(1, file - 1, false);
            x.write(file, 0, 6, 1);
            x.write(file, 6, 4, 1);
        }
        C.due("freeWords(4)", x.freeWords(4), 23);
        C.due("write of 10 words", x.write(2, 0, 6, 1), 13);
        C.due("freeWords(4)", x.freeWords(4), 13);
        C.due("write of 9 words", x.write(2, 6, 5, 1), 14);
        C.due("4 words are too few for any node", x.freeWords(4), 4);
        C.due("make", x.make(1, 9, false), NodeLogFlash.FULL);
        C.due("write of 5 words", x.write(2, 0, 1, 1), NodeLogFlash.FULL);
        C.due("freeWords(5)", x.freeWords(5), 23);
    }

    /** Block 0 has no node, nor has the other block when it is not 0; the rest is full or nearly so. */
    private static NodeLogFlash withoutNodes(int other) {
        NodeLogFlash x = Check.fiveFullBlocks();
        C.due("collect() of block 0 to block 5", x.collect(), 10);
        C.due("write", x.write(3, 10, 6, 1), 16);
        if (other > 0) {
            C.due("remove", x.remove(1, other + 1), other + 2);
            C.due("collect()", x.collect() > 0, true);
        }
        return x;
    }

    /** Block 0 alone has no node; then block 0 and one more, of which block 0 may be used. */
    private static void theOnlyBlockMayBeTheLowest() {
        NodeLogFlash x = withoutNodes(0);
        C.due("freeWords(0)", x.freeWords(0), 23);
        C.due("freeWords(5)", x.freeWords(5), 0);
        C.due("make", x.make(1, 9, false), NodeLogFlash.FULL);
        for (int b = 1; b <= 3; b++) {
            NodeLogFlash y = withoutNodes(b);
            C.due("freeWords(0)", y.freeWords(0), 23);
            C.due("freeWords(" + b + ")", y.freeWords(b), 23);
            C.due("make, block " + b + " is empty too", y.make(1, 9, false), b + 2);
            C.due("freeWords(0)", y.freeWords(0), 18);
            C.due("freeWords(" + b + ")", y.freeWords(b), 23);
        }
    }

    private static void full() {
        noPlaceAtAll();
        onlyOneBlockWithoutANode();
        twoBlocksWithoutANode();
        theOnlyBlockMayBeTheLowest();
    }

    private static void versions() {
        NodeLogFlash x = Check.mounted();
        x.make(1, 1, false);
        C.due("the first", x.peek(2), 1);
        x.write(2, 0, 1, 1);
        C.due("the second", x.peek(7), 2);
        x.remove(1, 1);
        x.make(1, 1, false);
        C.due("marked nodes have none: 1 again", x.peek(12), 1);
        C.due("write", x.write(2, 0, 1, 1), 2);
        C.due("write", x.write(2, 1, 1, 1), 3);
        C.due("write over the second: the third is the greatest", x.write(2, 0, 1, 1), 4);
        Check.cutPower(x);
        C.due("spoil of the fourth", x.peek(31) == 4 && x.spoil(30), true);
        x.mount();
        C.due("nor have nodes that went bad", x.write(2, 0, 1, 1), 4);
        x.arm(4);
        C.due("write", x.write(2, 0, 1, 1), NodeLogFlash.CUT);
        x.mount();
        C.due("nor have nodes that were cut", x.write(2, 0, 1, 1), 5);
        NodeLogFlash y = withFree(8);
        C.due("9 words, in block 1", y.write(2, 6, 5, 1), 3);
        C.due("5 words, in block 0", y.write(2, 11, 1, 1), 4);
        C.due("the greatest is not at the last place", y.write(2, 12, 1, 1), 5);
    }

    private static void sweepAfterIt() {
        NodeLogFlash x = Check.mounted();
        x.make(1, 1, false);
        x.write(2, 0, 2, 1);
        int before = x.operations();
        x.write(2, 0, 2, 2);
        C.due("write: 6 words and a mark", x.operations(), before + 7);
        x.move(1, 1, 1, 2);
        C.due("move: 5 words and a mark", x.operations(), before + 13);
        x.make(1, 1, false);
        C.due("make: 5 words and nothing to mark", x.operations(), before + 18);
        C.due("mount() has nothing more to mark", x.mount(), 3);
        C.due("operations()", x.operations(), before + 18);
    }

    private static void ranges() {
        NodeLogFlash x = Check.mounted();
        C.due("1 is the root, a directory", x.kindOf(1), 2);
        for (int name = 1; name <= 9; name++) {
            C.due("make(1, " + name + ")", x.make(1, name, name == 9), name + 1);
        }
        C.due("make(10, 1)", x.make(10, 1, false), 11);
        C.due("make(10, 9)", x.make(10, 9, false), 12);
        C.due("make(10, 2): no inode 13", x.make(10, 2, false), NodeLogFlash.FULL);
        C.due("make(1, 0)", x.make(1, 0, false), NodeLogFlash.BAD);
        C.due("make(1, 10)", x.make(1, 10, false), NodeLogFlash.BAD);
        C.due("make(0, 1)", x.make(0, 1, false), NodeLogFlash.BAD);
        C.due("make(13, 1)", x.make(13, 1, false), NodeLogFlash.BAD);
        for (int cell = 0; cell < 16; cell += 5) {
            C.due("write(12, " + cell + ", 1)", x.write(12, cell, 1, 500 + cell) > 0, true);
            C.due("read(12, " + cell + ")", x.read(12, cell), 500 + cell);
        }
        C.due("write(12, -1, 1)", x.write(12, -1, 1, 1), NodeLogFlash.BAD);
        C.due("write(12, 16, 1)", x.write(12, 16, 1, 1), NodeLogFlash.BAD);
    }

    public static void main(String[] args) {
        C.sentence("in the lowest block in use that has a node and at least s free words, behind its last node",
            EdgesOfPlacingTest::lowestBlockWithANode);
        C.sentence("when there is none, in the lowest block in use that has no node",
            EdgesOfPlacingTest::lowestBlockWithoutANode);
        C.sentence("Its words are programmed from the first to the last, one operation each.",
            EdgesOfPlacingTest::wordsFromTheFirstToTheLast);
        C.sentence("A call that APPENDS a node answers FULL, changing nothing, when the node has no place, "
            + "or its place is in the only block in use without a node.", EdgesOfPlacingTest::full);
        C.sentence("Its version is 1 more than the greatest version of a valid node (1 when there is none).",
            EdgesOfPlacingTest::versions);
        C.sentence("After it there is a sweep.", EdgesOfPlacingTest::sweepAfterIt);
        C.sentence("Inodes are 1 .. 12 (1 is the root, a directory), names 1 .. 9, cells of a file 0 .. 15.",
            EdgesOfPlacingTest::ranges);
        C.end();
    }
}
