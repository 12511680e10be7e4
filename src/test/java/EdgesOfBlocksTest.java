/** The edges that the document names for collect, freeWords, deadWords and peek (promises 13 to 16). */
final class EdgesOfBlocksTest {
    private static final Check C = new Check();
    private static final Refused R = new Refused(C);
    private static final int MIN = Integer.MIN_VALUE;
    private static final int MAX = Integer.MAX_VALUE;
    /** Too small, too large, and numbers that become the place of a block when they are multiplied by 24. */
    private static final int[] NO_BLOCKS = {-1, 6, 7, -6, MIN, MAX, 1 << 29, (1 << 29) + 1, (1 << 30) + 5, MIN + 2};

    // collect

    private static void deadWordsAreNeeded() {
        C.due("an empty flash", Check.mounted().collect(), 0);
        R.due("valid nodes alone", States::forest, x -> x.collect(), 0);
        NodeLogFlash x = States.forest();
        x.remove(1, 3);
        C.due("the least that can be dead", x.collect(), 5);
        C.due("no more", x.collect(), 0);
        NodeLogFlash y = Check.mounted();
        y.make(1, 1, false);
        y.write(2, 0, 6, 1);
        y.write(2, 6, 4, 1);
        y.remove(1, 1);
        int before = y.operations();
        C.due("the most that can be dead", y.collect(), 23);
        C.due("operations(): nothing to copy", y.operations(), before + 3);
        C.due("freeWords(0)", y.freeWords(0), 23);
    }

    /** No block is empty; block 0 has 13 words of valid nodes, and block 5 alone has that many free words. */
    private static NodeLogFlash roomInBlockFive(int taken) {
        NodeLogFlash x = Check.noEmptyBlock();
        C.due("write", x.write(6, 10, taken - 4, 1), 16);
        C.due("freeWords(5)", x.freeWords(5), 18 - taken);
        return x;
    }

    private static void roomInOtherBlocks() {
        NodeLogFlash x = roomInBlockFive(5);
        C.due("13 free words are enough", x.collect(), 10);
        C.due("freeWords(5)", x.freeWords(5), 0);
        C.due("freeWords(0)", x.freeWords(0), 23);
        C.dueNode("the link", x, 131, 0x5D810005, 1, 65537, 2);
        C.dueNode("the data", x, 136, 0x5D820008, 3, 65536 * 2 + 6, 250, 251, 252, 253);
        C.due("12 are too few, also for block 5 with its own", roomInBlockFive(6).collect(), 0);
    }

    private static void onlyBlockWithoutANode() {
        NodeLogFlash x = Check.fiveFullBlocks();
        C.due("no call that appends may use it", x.make(1, 9, false), NodeLogFlash.FULL);
        C.due("collect() may", x.collect(), 10);
        C.due("freeWords(5)", x.freeWords(5), 10);
        C.due("freeWords(0)", x.freeWords(0), 23);
    }

    /** Two nodes of which each alone has a place in block 5, but not both. */
    private static void eachPlacedNodeCounts() {
        NodeLogFlash x = roomInBlockFive(10);
        C.due("8 free words: the link or the data", x.collect(), 0);
        C.due("remove(1, 4): block 3 is dead", x.remove(1, 4), 5);
        C.due("collect() of block 3", x.collect(), 23);
        C.due("freeWords(3)", x.freeWords(3), 23);
        C.due("now the link goes to block 5, the data to block 3", x.collect(), 10);
        C.due("freeWords(5)", x.freeWords(5), 3);
        C.due("freeWords(3)", x.freeWords(3), 15);
    }

    /** Block 0 is empty, block 2 has 6 free words; block 1 has valid nodes of 8, 5 and 5 words. */
    private static void anEmptyBlockHasANodeForTheNext() {
        NodeLogFlash x = Check.mounted();
        x.make(1, 1, false);
        x.write(2, 0, 6, 1);
        x.write(2, 6, 4, 1);
        x.make(1, 2, false);
        x.write(3, 0, 4, 10);
        x.make(1, 3, false);
        x.make(1, 4, false);
        x.move(1, 2, 1, 5);
        x.write(3, 4, 2, 20);
        x.write(3, 6, 2, 30);
        x.remove(1, 1);
        C.due("collect() of block 0", x.collect(), 23);
        C.due("freeWords(2)", x.freeWords(2), 6);
        C.due("collect() of block 1", x.collect(), 5);
        C.due("the links follow the data to block 0", x.freeWords(0), 5);
        C.due("freeWords(2)", x.freeWords(2), 6);
    }

    /** Block 1 has, behind newer nodes, an older link that a collection brought there. */
    private static void placesNotVersions() {
        NodeLogFlash x = Check.mounted();
        x.make(1, 1, false);
        x.write(2, 0, 6, 1);
        x.write(2, 0, 6, 2);
        x.write(2, 6, 2, 3);
        C.due("the newest lies behind the link in block 0", x.peek(17), 4);
        C.due("collect() of block 0", x.collect(), 10);
        C.due("version of the first", x.peek(26), 3);
        C.due("version of the second", x.peek(36), 1);
        C.due("version of the third", x.peek(41), 4);
        C.due("write", x.write(2, 0, 6, 5), 5);
        C.due("collect() of block 1", x.collect(), 10);
        C.due("its link", x.peek(11), 0x5D810005);
        C.due("version of the link", x.peek(12), 1);
        C.due("version of the data", x.peek(17), 4);
    }

    private static void served() {
        deadWordsAreNeeded();
        roomInOtherBlocks();
        onlyBlockWithoutANode();
        eachPlacedNodeCounts();
        anEmptyBlockHasANodeForTheNext();
        placesNotVersions();
    }

    /** Files 2 .. 4 fill the blocks 0 .. 2, each with nodes of 5, 10 and 8 words. */
    private static NodeLogFlash threeBlocks() {
        NodeLogFlash x = Check.mounted();
        for (int file = 2; file <= 4; file++) {
            x.make(1, file - 1, false);
            x.write(file, 0, 6, 1);
            x.write(file, 6, 4, 1);
        }
        return x;
    }

    private static void mostDeadWords() {
        for (int most = 0; most < 3; most++) {
            NodeLogFlash x = threeBlocks();
            for (int b = 0; b < 3; b++) {
                x.write(2 + b, b == most ? 0 : 6, b == most ? 6 : 4, 2);
            }
            C.due("collect(), the most are in block " + most, x.collect(), 10);
            for (int b = 0; b < 3; b++) {
                C.due("freeWords(" + b + ")", x.freeWords(b), b == most ? 23 : 0);
            }
        }
    }

    private static void lowestOfSeveral() {
        for (int first = 0; first < 3; first++) {
            NodeLogFlash x = threeBlocks();
            for (int b = 2; b >= first; b--) {
                x.write(2 + b, 0, 6, 2);
            }
            C.due("collect(), equal from block " + first + " on", x.collect(), 10);
            for (int b = 0; b < 3; b++) {
                C.due("freeWords(" + b + ")", x.freeWords(b), b == first ? 23 : 0);
            }
        }
    }

    private static void mostOfThoseThatCanBeServed() {
        NodeLogFlash x = States.mostDeadCannotBeServed();
        C.due("deadWords(1)", x.deadWords(1), 15);
        C.due("collect(): block 0", x.collect(), 12);
        C.due("freeWords(0)", x.freeWords(0), 23);
        C.due("collect(): block 1, as block 0 is empty", x.collect(), 15);
        C.due("freeWords(1)", x.freeWords(1), 23);
        NodeLogFlash y = roomInBlockFive(9);
        C.due("none", y.collect(), 0);
        C.due("remove(1, 5): its nodes are in the blocks 4 and 5", y.remove(1, 5), 6);
        C.due("block 5, with no valid node", y.collect(), 14);
        C.due("freeWords(5)", y.freeWords(5), 23);
        C.due("then block 4", y.collect(), 13);
        C.due("then block 0", y.collect(), 10);
        C.due("then none", y.collect(), 0);
    }

    private static void taken() {
        mostDeadWords();
        lowestOfSeveral();
        mostOfThoseThatCanBeServed();
    }

    /** The first operation of the clearing comes behind the last word of the last copy. */
    private static void copiedThenCleared() {
        for (int n = 0; n <= 16; n++) {
            NodeLogFlash x = Check.fiveFullBlocks();
            int[] before = Check.words(x);
            x.arm(n);
            C.due("collect() with " + n, x.collect(), n < 16 ? NodeLogFlash.CUT : 10);
            for (int i = 0; i < 13; i++) {
                int from = i < 5 ? 1 + i : 16 + i - 5;
                C.due("word " + i + " of the copies with " + n, x.peek(121 + i), i < n ? before[from] : -1);
            }
            C.due("behind the copies", x.peek(134), -1);
            C.due("freeWords(0) with " + n, x.freeWords(0), n < 14 ? 0 : n < 16 ? -1 : 23);
            C.due("mount()", x.mount(), 14);
        }
    }

    private static void collectWithThePowerOff() {
        R.due("collect, full", States::fullAndOff, x -> x.collect(), NodeLogFlash.OFF);
        C.due("a new object", new NodeLogFlash().collect(), NodeLogFlash.OFF);
    }

    private static void noneCanBeServed() {
        R.due("no dead words", States::forest, x -> x.collect(), 0);
        R.due("no room", () -> roomInBlockFive(6), x -> x.collect(), 0);
    }

    private static void collectCut() {
        for (int n = 0; n <= 16; n++) {
            NodeLogFlash x = Check.fiveFullBlocks();
            int before = x.operations();
            x.arm(n);
            C.due("collect() with " + n, x.collect(), n < 16 ? NodeLogFlash.CUT : 10);
            C.due("operations()", x.operations(), before + n);
            C.due("the power", x.kindOf(1), n < 16 ? NodeLogFlash.OFF : 2);
            C.due("mount()", x.mount(), 14);
            C.due("read(2, 0)", x.read(2, 0), 1000);
            C.due("read(2, 9)", x.read(2, 9), 253);
            C.due("entry(1, 1)", x.entry(1, 1), 2);
        }
    }

    // freeWords and deadWords

    private static void freeWordsOnAndOff() {
        int[] due = {1, 8, 23, 23, 23, 23};
        for (int b = 0; b < 6; b++) {
            C.due("freeWords(" + b + ") on", States.forest().freeWords(b), due[b]);
            C.due("freeWords(" + b + ") off", States.off().freeWords(b), due[b]);
        }
        C.due("a full block", Check.fiveFullBlocks().freeWords(4), 0);
    }

    private static void noFreeWords() {
        for (int b : NO_BLOCKS) {
            R.due("freeWords(" + b + ")", States::forest, x -> x.freeWords(b), -1);
            R.due("freeWords(" + b + ") off", States::off, x -> x.freeWords(b), -1);
        }
        for (int b = 0; b < 6; b++) {
            C.due("freeWords(" + b + ") of a new object", new NodeLogFlash().freeWords(b), -1);
            NodeLogFlash x = States.off();
            x.spoil(24 * b);
            for (int other = 0; other < 6; other++) {
                C.due("freeWords(" + other + ") without " + b, x.freeWords(other) == -1, other == b);
            }
        }
    }

    private static void deadWordsOnAndOff() {
        NodeLogFlash x = Check.fiveFullBlocks();
        x.remove(1, 2);
        int[] due = {10, 23, 0, 0, 0, 0};
        for (int b = 0; b < 6; b++) {
            C.due("deadWords(" + b + ") on", x.deadWords(b), due[b]);
        }
        States.turnedOff(x);
        for (int b = 0; b < 6; b++) {
            C.due("deadWords(" + b + ") off", x.deadWords(b), due[b]);
        }
    }

    private static void noDeadWords() {
        for (int b : NO_BLOCKS) {
            R.due("deadWords(" + b + ")", States::forest, x -> x.deadWords(b), -1);
            R.due("deadWords(" + b + ") off", States::off, x -> x.deadWords(b), -1);
        }
        for (int b = 0; b < 6; b++) {
            C.due("deadWords(" + b + ") of a new object", new NodeLogFlash().deadWords(b), -1);
            NodeLogFlash x = States.off();
            x.spoil(24 * b);
            for (int other = 0; other < 6; other++) {
                C.due("deadWords(" + other + ") without " + b, x.deadWords(other), other == b ? -1 : 0);
            }
        }
    }

    // peek

    private static void peekOnAndOff() {
        NodeLogFlash x = States.forest();
        int[] before = Check.words(x);
        C.due("peek(0)", before[0], 6533);
        C.due("peek(120)", before[120], 6533);
        C.due("peek(143)", before[143], -1);
        C.due("peek(1)", before[1], 0x5D810005);
        States.turnedOff(x);
        C.dueWords("with the power off", x, before, 0, 144);
    }

    private static void peekOutside() {
        int[] outside = {-1, 144, 145, -24, 168, MIN, MAX, 65536, MIN + 1, 1 << 29};
        for (int p : outside) {
            R.due("peek(" + p + ")", States::forest, x -> x.peek(p), 0);
            R.due("peek(" + p + ") off", States::off, x -> x.peek(p), 0);
            C.due("peek(" + p + ") of a new object", new NodeLogFlash().peek(p), 0);
        }
    }

    public static void main(String[] args) {
        C.sentence("A block in use can be SERVED when it has dead words and its valid nodes, one after the other in "
            + "the order of places, can be placed as said above in the other blocks (each placed node counts for "
            + "the next; also in the only block without a node).", EdgesOfBlocksTest::served);
        C.sentence("Of those the one with the most dead words is taken, the lowest when there are several",
            EdgesOfBlocksTest::taken);
        C.sentence("its valid nodes are programmed word by word at those places (with the same words, the same "
            + "version), then it is cleared", EdgesOfBlocksTest::copiedThenCleared);
        C.sentence("collect: OFF", EdgesOfBlocksTest::collectWithThePowerOff);
        C.sentence("collect: 0, changing nothing, when none can be served", EdgesOfBlocksTest::noneCanBeServed);
        C.sentence("collect: CUT", EdgesOfBlocksTest::collectCut);
        C.sentence("How many free words block b has, whether the power is on or off",
            EdgesOfBlocksTest::freeWordsOnAndOff);
        C.sentence("freeWords: -1 when b is not 0 .. 5 or the block is not in use", EdgesOfBlocksTest::noFreeWords);
        C.sentence("How many dead words block b has, whether the power is on or off",
            EdgesOfBlocksTest::deadWordsOnAndOff);
        C.sentence("deadWords: -1 when b is not 0 .. 5 or the block is not in use", EdgesOfBlocksTest::noDeadWords);
        C.sentence("The word at place p, whether the power is on or off", EdgesOfBlocksTest::peekOnAndOff);
        C.sentence("peek: 0 when p is not 0 .. 143", EdgesOfBlocksTest::peekOutside);
        C.end();
    }
}
