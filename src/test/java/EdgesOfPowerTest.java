/** The edges that the document names for a new object, mount, arm, spoil and operations (promises 1 to 4, 17). */
final class EdgesOfPowerTest {
    private static final Check C = new Check();
    private static final Refused R = new Refused(C);

    private static void newObject() {
        NodeLogFlash x = new NodeLogFlash();
        for (int p = 0; p < 144; p++) {
            C.due("peek(" + p + ")", x.peek(p), -1);
        }
        C.due("the power is off", x.kindOf(1), NodeLogFlash.OFF);
        C.due("operations()", x.operations(), 0);
        C.due("nothing is armed, mount()", x.mount(), 0);
        for (int i = 2; i <= 10; i++) {
            C.due("nothing is armed, make", x.make(1, i - 1, false), i);
        }
    }

    /** A mount with the power on turns nothing off, clears nothing and leaves what is armed. */
    private static void mountWithThePowerOn() {
        NodeLogFlash x = States.forest();
        int before = x.operations();
        x.arm(5);
        C.due("mount()", x.mount(), 7);
        C.due("mount()", x.mount(), 7);
        C.due("kindOf(1)", x.kindOf(1), 2);
        C.due("operations()", x.operations(), before);
        C.due("make: five are armed", x.make(1, 9, false), 8);
        C.due("make: none is left", x.make(1, 8, false), NodeLogFlash.CUT);
    }

    private static int countOf(int blocks) {
        return Integer.bitCount(blocks);
    }

    /** Each choice of blocks, none and all six among them. */
    private static void clearsWhatIsNotInUse() {
        for (int bad = 0; bad < 64; bad++) {
            NodeLogFlash x = Check.mounted();
            Check.cutPower(x);
            for (int b = 0; b < 6; b++) {
                if ((bad >> b & 1) == 1) {
                    x.spoil(24 * b);
                }
            }
            int before = x.operations();
            C.due("mount() without the blocks " + bad, x.mount(), 0);
            C.due("operations() without the blocks " + bad, x.operations(), before + 3 * countOf(bad));
            for (int b = 0; b < 6; b++) {
                C.due("freeWords(" + b + ")", x.freeWords(b), 23);
            }
        }
    }

    private static void clearsFromBlockZeroOn() {
        for (int cleared = 0; cleared <= 6; cleared++) {
            NodeLogFlash x = new NodeLogFlash();
            x.arm(3 * cleared);
            C.due("mount()", x.mount(), cleared < 6 ? NodeLogFlash.CUT : 0);
            for (int b = 0; b < 6; b++) {
                C.due("freeWords(" + b + ") of " + cleared, x.freeWords(b), b < cleared ? 23 : -1);
            }
        }
    }

    /** What lay in a block that is cleared is gone for the sweep of the same mount. */
    private static void sweepsBehindTheClearing() {
        NodeLogFlash x = Check.fiveFullBlocks();
        x.arm(0);
        x.remove(1, 5);
        C.due("spoil(0): the link of file 2, its data in block 4 stays", x.spoil(0), true);
        int before = x.operations();
        C.due("mount()", x.mount(), 11);
        C.due("its data is marked", x.peek(97), 0x5D02000A);
        C.due("operations(): a clearing and a mark", x.operations(), before + 4);
    }

    private static void clearsAndSweeps() {
        clearsWhatIsNotInUse();
        clearsFromBlockZeroOn();
        sweepsBehindTheClearing();
    }

    /** No node at all; twenty of the shortest; and 24, of which two are dead, in six blocks. */
    private static void numberOfValidNodes() {
        C.due("none", new NodeLogFlash().mount(), 0);
        C.due("twenty", States.twentyNodes().mount(), 20);
        NodeLogFlash x = Check.mounted();
        x.make(1, 1, false);
        x.make(1, 2, false);
        for (int i = 0; i < 18; i++) {
            x.write(2 + i % 2, i < 2 ? 15 : 14 - i / 2, 1, 100 + i);
        }
        C.due("all are valid", x.mount(), 20);
        x.remove(1, 2);
        C.due("without the file 3 and its data", x.mount(), 10);
        NodeLogFlash y = twentyFourNodes();
        C.due("22 of 24", y.mount(), 22);
        for (int b = 0; b < 6; b++) {
            C.due("freeWords(" + b + ")", y.freeWords(b), 3);
            C.due("deadWords(" + b + ")", y.deadWords(b), b == 0 || b == 5 ? 5 : 0);
        }
        C.due("the last node counts", y.read(3, 15), 902);
    }

    private static NodeLogFlash twentyFourNodes() {
        NodeLogFlash x = Check.mounted();
        x.make(1, 1, false);
        x.make(1, 2, false);
        x.write(2, 0, 1, 100);
        for (int i = 0; i < 17; i++) {
            x.write(2 + i % 2, i / 2, 1, 100 + i);
        }
        x.arm(1);
        C.due("collect() of block 0 to block 5", x.collect(), NodeLogFlash.CUT);
        x.mount();
        for (int cell = 13; cell <= 15; cell++) {
            C.due("write behind the HEAD in block 5", x.write(3, cell, 1, 887 + cell) > 0, true);
        }
        return x;
    }

    /** Block 0 is to be cleared and one node to be marked: before each of the four the power may fail. */
    private static void mountIsCut() {
        for (int n = 0; n <= 4; n++) {
            NodeLogFlash x = Check.fiveFullBlocks();
            x.arm(0);
            x.remove(1, 5);
            x.spoil(0);
            int before = x.operations();
            x.arm(n);
            C.due("mount() with " + n, x.mount(), n < 4 ? NodeLogFlash.CUT : 11);
            C.due("kindOf(1) with " + n, x.kindOf(1), n < 4 ? NodeLogFlash.OFF : 2);
            C.due("operations()", x.operations(), before + n);
            C.due("mount() again", x.mount(), 11);
        }
    }

    private static void armReplaces() {
        NodeLogFlash x = Check.mounted();
        C.due("arm(0)", x.arm(0), true);
        C.due("arm(5) in place of 0", x.arm(5), true);
        C.due("make", x.make(1, 1, false), 2);
        C.due("arm(100)", x.arm(100), true);
        C.due("arm(0) in place of 100", x.arm(0), true);
        C.due("make", x.make(1, 2, false), NodeLogFlash.CUT);
        C.due("operations()", x.operations(), 23);
        NodeLogFlash y = new NodeLogFlash();
        C.due("arm(MAX)", y.arm(Integer.MAX_VALUE), true);
        C.due("mount()", y.mount(), 0);
        C.due("make", y.make(1, 1, false), 2);
        C.due("arm(1) in place of MAX less 23", y.arm(1), true);
        C.due("make", y.make(1, 2, false), NodeLogFlash.CUT);
        C.due("operations()", y.operations(), 24);
    }

    private static void armOnAndOff() {
        NodeLogFlash x = new NodeLogFlash();
        C.due("arm(17) with the power off", x.arm(17), true);
        C.due("kindOf(1): that turns nothing on", x.kindOf(1), NodeLogFlash.OFF);
        C.due("mount()", x.mount(), NodeLogFlash.CUT);
        C.due("operations()", x.operations(), 17);
        x.mount();
        C.due("arm(4) with the power on", x.arm(4), true);
        C.due("kindOf(1): that turns nothing off", x.kindOf(1), 2);
        C.due("make", x.make(1, 1, false), NodeLogFlash.CUT);
        C.due("arm(0) with the power off", x.arm(0), true);
        C.due("mount() needs no operation", x.mount(), 0);
        C.due("make", x.make(1, 1, false), NodeLogFlash.CUT);
    }

    private static void armBelowZero() {
        int[] bad = {-1, -2, Integer.MIN_VALUE};
        for (int n : bad) {
            R.due("arm(" + n + ")", States::forest, x -> x.arm(n) ? 1 : 0, 0);
            R.due("arm(" + n + ") with the power off", States::off, x -> x.arm(n) ? 1 : 0, 0);
            NodeLogFlash x = States.forest();
            x.arm(n);
            C.due("arm(" + n + ") arms nothing, make", x.make(1, 9, false), 8);
            x.arm(2);
            x.arm(n);
            C.due("arm(" + n + ") leaves 2, make", x.make(1, 8, false), NodeLogFlash.CUT);
            C.due("its second word", x.peek(50), 9);
            C.due("not its third", x.peek(51), -1);
        }
        C.due("arm(0) is not less than 0", States.forest().arm(0), true);
    }

    /** Only the one word changes, there is no operation, and the power stays off. */
    private static void spoilt(String what, NodeLogFlash x, int p, int changed) {
        int[] before = Check.words(x);
        int operations = x.operations();
        C.due(what, x.spoil(p), true);
        before[changed] = 0;
        C.dueWords(what, x, before, 0, 144);
        C.due(what + ", operations()", x.operations(), operations);
        C.due(what + ", the power", x.kindOf(1), NodeLogFlash.OFF);
    }

    private static void spoilIsNoOperation() {
        NodeLogFlash x = States.forest();
        x.arm(1);
        x.remove(1, 1);
        x.arm(0);
        int before = x.operations();
        C.due("spoil(24) when no operation may happen", x.spoil(24), true);
        C.due("operations()", x.operations(), before);
        C.due("it is still armed, mount()", x.mount(), NodeLogFlash.CUT);
        C.due("operations()", x.operations(), before);
    }

    private static void spoilOfABlock() {
        for (int b = 0; b < 6; b++) {
            spoilt("spoil of block " + b, States.off(), 24 * b, 24 * b);
            NodeLogFlash x = States.off();
            x.spoil(24 * b);
            C.due("freeWords(" + b + ")", x.freeWords(b), -1);
            C.due("it is no longer in use", x.spoil(24 * b), false);
        }
        NodeLogFlash fresh = new NodeLogFlash();
        for (int b = 0; b < 6; b++) {
            C.due("spoil(" + 24 * b + ") before the first mount", fresh.spoil(24 * b), false);
            C.due("peek(" + 24 * b + ")", fresh.peek(24 * b), -1);
        }
    }

    /** Valid, marked, cut and spoilt nodes, the shortest and the longest, the first and the last of a block. */
    private static void spoilOfANode() {
        spoilt("the first of block 0", States.off(), 1, 5);
        spoilt("data of 7 words", States.off(), 6, 12);
        spoilt("the last of block 0", States.off(), 18, 22);
        spoilt("the first of block 1", States.off(), 25, 29);
        NodeLogFlash x = States.turnedOff(Check.fiveFullBlocks());
        spoilt("a marked node of 10 words", x, 6, 15);
        NodeLogFlash again = States.turnedOff(Check.fiveFullBlocks());
        again.spoil(6);
        spoilt("a spoilt node", again, 6, 15);
        spoilt("up to the last word of a block", States.turnedOff(Check.fiveFullBlocks()), 16, 23);
        NodeLogFlash cut = States.forest();
        cut.arm(1);
        cut.write(2, 0, 4, 1);
        spoilt("a node of which only the HEAD is there", cut, 40, 47);
        NodeLogFlash last = twentyFourNodes();
        last.arm(0);
        last.remove(1, 1);
        spoilt("the last of block 5", last, 136, 140);
    }

    private static void spoilWithThePowerOn() {
        int[] places = {0, 1, 6, 18, 24, 25, 120, 2, 48, 143, -1, 144};
        for (int p : places) {
            R.due("spoil(" + p + ") with the power on", States::forest, x -> x.spoil(p) ? 1 : 0, 0);
        }
    }

    private static boolean isPlaceToSpoil(int p) {
        boolean head = p == 1 || p == 6 || p == 13 || p == 18 || p == 25 || p == 30 || p == 35;
        return head || p >= 0 && p < 144 && p % 24 == 0;
    }

    private static void spoilAtNoSuchPlace() {
        for (int place = -25; place < 170; place++) {
            int p = place;
            if (!isPlaceToSpoil(p)) {
                R.due("spoil(" + p + ")", States::off, x -> x.spoil(p) ? 1 : 0, 0);
            }
        }
        int[] wild = {Integer.MIN_VALUE, Integer.MAX_VALUE, Integer.MIN_VALUE + 1, 1 << 16, 1 << 29};
        for (int p : wild) {
            R.due("spoil(" + p + ")", States::off, x -> x.spoil(p) ? 1 : 0, 0);
        }
        NodeLogFlash x = States.off();
        x.spoil(0);
        int[] before = Check.words(x);
        for (int p = 0; p < 24; p++) {
            C.due("spoil(" + p + ") in a block that is not in use", x.spoil(p), false);
        }
        C.dueWords("a block that is not in use", x, before, 0, 144);
    }

    /** Each kind of call, cut before its second operation: one more was counted, not two. */
    private static void operationsThatDidNotHappen() {
        NodeLogFlash x = new NodeLogFlash();
        x.arm(1);
        x.mount();
        C.due("mount()", x.operations(), 1);
        x.mount();
        C.due("mount()", x.operations(), 19);
        x.arm(1);
        x.make(1, 1, false);
        C.due("make", x.operations(), 20);
        x.mount();
        x.make(1, 1, false);
        C.due("make", x.operations(), 25);
        x.arm(1);
        x.move(1, 1, 1, 2);
        C.due("move", x.operations(), 26);
        x.mount();
        x.arm(1);
        x.write(2, 0, 1, 1);
        C.due("write", x.operations(), 27);
        x.mount();
        x.write(2, 0, 1, 1);
        C.due("write", x.operations(), 32);
        x.arm(1);
        x.remove(1, 1);
        C.due("remove", x.operations(), 33);
        x.mount();
        C.due("mount(): a mark", x.operations(), 34);
        x.arm(1);
        x.collect();
        C.due("collect", x.operations(), 35);
        x.arm(0);
        x.mount();
        C.due("mount(), cut before its first", x.operations(), 35);
        x.make(1, 1, false);
        x.collect();
        C.due("calls with the power off", x.operations(), 35);
    }

    public static void main(String[] args) {
        C.sentence("All words -1, the power off, nothing armed.", EdgesOfPowerTest::newObject);
        C.sentence("Turns the power on (it may be on already).", EdgesOfPowerTest::mountWithThePowerOn);
        C.sentence("Then every block that is not in use is cleared, from block 0 on, and there is a sweep.",
            EdgesOfPowerTest::clearsAndSweeps);
        C.sentence("Answers the number of valid nodes then", EdgesOfPowerTest::numberOfValidNodes);
        C.sentence("CUT when the power fails meanwhile", EdgesOfPowerTest::mountIsCut);
        C.sentence("Arms the power to fail after n operations more (in place of what was armed)",
            EdgesOfPowerTest::armReplaces);
        C.sentence("answers true, whether the power is on or off", EdgesOfPowerTest::armOnAndOff);
        C.sentence("false when n is less than 0", EdgesOfPowerTest::armBelowZero);
        C.sentence("Something on the flash goes bad (that is no operation).", EdgesOfPowerTest::spoilIsNoOperation);
        C.sentence("When p is the place of word 0 of a block in use: that word becomes 0.",
            EdgesOfPowerTest::spoilOfABlock);
        C.sentence("When p is the place of the HEAD of a node in a block in use: the last word of that node becomes 0.",
            EdgesOfPowerTest::spoilOfANode);
        C.sentence("false, changing nothing, when the power is on", EdgesOfPowerTest::spoilWithThePowerOn);
        C.sentence("or p is no such place", EdgesOfPowerTest::spoilAtNoSuchPlace);
        C.sentence("How many operations there were (one that did not happen, because the power failed, is not counted).",
            EdgesOfPowerTest::operationsThatDidNotHappen);
        C.end();
    }
}
