/** The edges that the document names under 'What it is' and, in 'Terms', for the flash and the power. */
final class EdgesOfFlashTest {
    private static final Check C = new Check();

    /** Writes and collects until call 511; what is read by call 512 is the newest value. */
    private static void fiveHundredAndTwelveCalls() {
        NodeLogFlash x = new NodeLogFlash();
        x.mount();
        x.make(1, 1, false);
        int calls = 2;
        int version = 1;
        int newest = 0;
        while (calls < 511) {
            int answer = x.write(2, 10, 6, 1000 * calls);
            calls++;
            if (answer != NodeLogFlash.FULL) {
                version++;
                newest = 1000 * (calls - 1);
                C.due("call " + calls + ", write", answer, version);
            } else if (calls < 511) {
                C.due("call " + calls + ", collect()", x.collect() > 0, true);
                calls++;
            }
        }
        C.due("call 512, read(2, 15)", x.read(2, 15), newest + 5);
    }

    private static void placesOfTheFlash() {
        NodeLogFlash x = new NodeLogFlash();
        C.due("peek(0)", x.peek(0), -1);
        C.due("peek(143)", x.peek(143), -1);
        C.due("peek(-1)", x.peek(-1), 0);
        C.due("peek(144)", x.peek(144), 0);
    }

    /** Nodes of 5, 10 and 8 words fill a block to its last word; the next begins behind the next word 0. */
    private static void blocksOfTwentyFourWords() {
        NodeLogFlash x = Check.fiveFullBlocks();
        for (int b = 0; b < 5; b++) {
            C.due("word 0 of block " + b, x.peek(24 * b), 6533);
            C.due("freeWords(" + b + ")", x.freeWords(b), 0);
        }
        C.dueNode("the first node of block 0", x, 1, 0x5D810005, 1, 65537, 2);
        C.dueNode("the last node of block 0", x, 16, 0x5D820008, 3, 65536 * 2 + 6, 250, 251, 252, 253);
        C.dueNode("the first node of block 1", x, 25, 0x5D810005, 4, 65538, 3);
        C.dueNode("the last node of block 4", x, 112, 0x5D820008, 15, 65536 * 6, 600, 601, 602, 603);
        C.due("word 0 of block 5", x.peek(120), 6533);
        C.due("freeWords(5)", x.freeWords(5), 23);
    }

    private static void allWordsAtFirst() {
        NodeLogFlash x = new NodeLogFlash();
        for (int p = 0; p < 144; p++) {
            C.due("peek(" + p + ") at first", x.peek(p), -1);
        }
    }

    /** Blocks 0 .. 4 have no word that is -1, so each word that an erasure takes or leaves can be told. */
    private static NodeLogFlash blockGoneBad(int block) {
        NodeLogFlash x = Check.fiveFullBlocks();
        x.arm(0);
        x.remove(1, 5);
        C.due("spoil of word 0", x.spoil(24 * block), true);
        return x;
    }

    private static void halvesOfABlock() {
        for (int block = 0; block < 5; block++) {
            NodeLogFlash x = blockGoneBad(block);
            int start = 24 * block;
            int[] before = Check.words(x);
            x.arm(1);
            x.mount();
            for (int p = 0; p < 144; p++) {
                boolean erased = p >= start && p < start + 12;
                C.due("peek(" + p + "), first half of block " + block, x.peek(p), erased ? -1 : before[p]);
            }
            NodeLogFlash y = blockGoneBad(block);
            y.arm(2);
            y.mount();
            for (int p = 0; p < 144; p++) {
                boolean erased = p >= start && p < start + 24;
                C.due("peek(" + p + "), both halves of block " + block, y.peek(p), erased ? -1 : before[p]);
            }
        }
    }

    private static void threeOperationsToClear() {
        for (int n = 0; n <= 3; n++) {
            NodeLogFlash x = blockGoneBad(3);
            int before = x.operations();
            x.arm(n);
            C.due("mount() after " + n + " operations", x.mount() == NodeLogFlash.CUT, n < 3);
            C.due("operations()", x.operations(), before + n);
            int[] wordZero = {0, -1, -1, 6533};
            C.due("word 0 after " + n + " operations", x.peek(72), wordZero[n]);
            C.due("freeWords(3)", x.freeWords(3), n < 3 ? -1 : 23);
            C.due("mount() in the end", x.mount(), 11);
            C.due("all words behind it", x.freeWords(3), 23);
        }
    }

    /** Word 0 is -1, or 0, or CLEAN; only in the last case the nodes behind it are seen. */
    private static void inUse() {
        NodeLogFlash fresh = new NodeLogFlash();
        C.due("freeWords(0), word 0 is -1", fresh.freeWords(0), -1);
        C.due("deadWords(0), word 0 is -1", fresh.deadWords(0), -1);
        NodeLogFlash x = Check.fiveFullBlocks();
        C.due("deadWords(0), word 0 is CLEAN", x.deadWords(0), 10);
        x.arm(0);
        x.remove(1, 5);
        x.spoil(0);
        C.due("deadWords(0), word 0 is 0", x.deadWords(0), -1);
        C.due("freeWords(0), word 0 is 0", x.freeWords(0), -1);
        C.due("spoil(1), a HEAD that does not count", x.spoil(1), false);
        x.arm(1);
        C.due("mount() cut between the halves", x.mount(), NodeLogFlash.CUT);
        C.due("peek(16), a HEAD in the second half", x.peek(16), 0x5D820008);
        C.due("spoil(16)", x.spoil(16), false);
        C.due("deadWords(0), word 0 is -1 again", x.deadWords(0), -1);
        C.due("mount(): files 3 .. 6 and their data", x.mount(), 11);
        C.due("kindOf(2), its link lay there", x.kindOf(2), 0);
    }

    private static void operationsThatSucceed() {
        for (int n = 0; n <= 5; n++) {
            NodeLogFlash x = Check.mounted();
            x.arm(n);
            C.due("make with " + n + " armed", x.make(1, 1, true), n < 5 ? NodeLogFlash.CUT : 2);
            C.due("operations()", x.operations(), 18 + n);
            int[] link = {0x5D810005, 1, 65537, 65538, 660860485};
            for (int i = 0; i < 5; i++) {
                C.due("word " + i + " with " + n + " armed", x.peek(1 + i), i < n ? link[i] : -1);
            }
        }
    }

    private static void offFromThereOn() {
        NodeLogFlash x = Check.mounted();
        x.arm(2);
        C.due("make", x.make(1, 1, true), NodeLogFlash.CUT);
        C.due("make", x.make(1, 1, true), NodeLogFlash.OFF);
        C.due("move", x.move(1, 1, 1, 2), NodeLogFlash.OFF);
        C.due("remove", x.remove(1, 1), NodeLogFlash.OFF);
        C.due("write", x.write(2, 0, 1, 1), NodeLogFlash.OFF);
        C.due("read", x.read(2, 0), NodeLogFlash.NO_CELL);
        C.due("size", x.size(1), NodeLogFlash.OFF);
        C.due("entry", x.entry(1, 1), NodeLogFlash.OFF);
        C.due("kindOf", x.kindOf(1), NodeLogFlash.OFF);
        C.due("collect", x.collect(), NodeLogFlash.OFF);
        C.due("mount()", x.mount(), 0);
        for (int i = 0; i < 11; i++) {
            C.due("nothing is armed any more, make", x.make(1 + i, 1, true), 2 + i);
        }
    }

    /** In each call that has operations the power fails before the last of them. */
    private static void theCallIsCut() {
        NodeLogFlash x = new NodeLogFlash();
        x.arm(17);
        C.due("mount()", x.mount(), NodeLogFlash.CUT);
        C.due("it answers no number of nodes, peek(120)", x.peek(120), -1);
        x.mount();
        x.arm(4);
        C.due("make", x.make(1, 1, false), NodeLogFlash.CUT);
        x.mount();
        C.due("make", x.make(1, 1, false), 2);
        x.arm(5);
        C.due("move: all but the mark", x.move(1, 1, 1, 2), NodeLogFlash.CUT);
        C.due("the older link is not marked", x.peek(6), 0x5D810005);
        C.due("mount()", x.mount(), 1);
        C.due("write", x.write(2, 0, 1, 7), 3);
        x.arm(5);
        C.due("write: all but the mark", x.write(2, 0, 1, 8), NodeLogFlash.CUT);
        C.due("the older data is not marked", x.peek(16), 0x5D820005);
        C.due("mount()", x.mount(), 2);
        x.arm(1);
        C.due("remove: all but the mark of the data", x.remove(1, 2), NodeLogFlash.CUT);
        C.due("the data is not marked", x.peek(25), 0x5D820005);
        C.due("mount()", x.mount(), 0);
        x.arm(2);
        C.due("collect: all but CLEAN", x.collect(), NodeLogFlash.CUT);
        C.due("peek(0)", x.peek(0), -1);
    }

    private static void offAtFirst() {
        NodeLogFlash x = new NodeLogFlash();
        C.due("kindOf(1)", x.kindOf(1), NodeLogFlash.OFF);
        C.due("mount()", x.mount(), 0);
        C.due("kindOf(1)", x.kindOf(1), 2);
    }

    public static void main(String[] args) {
        C.sentence("An object is used for at most 512 calls after it has been made",
            EdgesOfFlashTest::fiveHundredAndTwelveCalls);
        C.sentence("144 words (ints) at places 0 .. 143", EdgesOfFlashTest::placesOfTheFlash);
        C.sentence("in blocks 0 .. 5 of 24 words (block b has places 24 * b .. 24 * b + 23)",
            EdgesOfFlashTest::blocksOfTwentyFourWords);
        C.sentence("all words are -1 at first", EdgesOfFlashTest::allWordsAtFirst);
        C.sentence("to ERASE half a block (its words 0 .. 11, or its words 12 .. 23, become -1)",
            EdgesOfFlashTest::halvesOfABlock);
        C.sentence("To CLEAR a block is three operations", EdgesOfFlashTest::threeOperationsToClear);
        C.sentence("A block is IN USE when its word 0 is CLEAN; otherwise nothing in it counts.",
            EdgesOfFlashTest::inUse);
        C.sentence("arm(n) lets n operations more succeed; the operation after those does not happen",
            EdgesOfFlashTest::operationsThatSucceed);
        C.sentence("the power is OFF from there on, and nothing is armed any more",
            EdgesOfFlashTest::offFromThereOn);
        C.sentence("The call in which that happens does nothing further and answers CUT.",
            EdgesOfFlashTest::theCallIsCut);
        C.sentence("Power is off at first; mount() turns it on.", EdgesOfFlashTest::offAtFirst);
        C.end();
    }
}
