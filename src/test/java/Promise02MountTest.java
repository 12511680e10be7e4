/** Promise 2: mount clears what is not in use, sweeps, and answers the number of valid nodes. */
final class Promise02MountTest {
    private static final Check C = new Check();

    private static void firstMountClearsAllBlocks() {
        NodeLogFlash x = new NodeLogFlash();
        C.due("mount()", x.mount(), 0);
        C.due("operations()", x.operations(), 18);
        C.due("kindOf(1)", x.kindOf(1), 2);
        for (int p = 0; p < 144; p++) {
            C.due("peek(" + p + ")", x.peek(p), p % 24 == 0 ? 6533 : -1);
        }
        C.due("mount() with the power on", x.mount(), 0);
        C.due("operations(), nothing to clear", x.operations(), 18);
    }

    private static void firstMountCutAnywhere() {
        for (int n = 0; n < 18; n++) {
            NodeLogFlash x = new NodeLogFlash();
            x.arm(n);
            C.due("mount() cut after " + n, x.mount(), NodeLogFlash.CUT);
            C.due("operations()", x.operations(), n);
            C.due("kindOf(1)", x.kindOf(1), NodeLogFlash.OFF);
            int done = n / 3;
            for (int b = 0; b < 6; b++) {
                C.due("freeWords(" + b + ") cut after " + n, x.freeWords(b), b < done ? 23 : -1);
            }
            C.due("mount() again", x.mount(), 0);
            C.due("operations(): only the other blocks", x.operations(), n + 3 * (6 - done));
        }
        NodeLogFlash x = new NodeLogFlash();
        x.arm(18);
        C.due("mount() with just enough", x.mount(), 0);
        C.due("kindOf(1)", x.kindOf(1), 2);
    }

    /** Block 0 holds nodes in both halves; its first word goes bad. */
    private static NodeLogFlash withBadBlock() {
        NodeLogFlash x = Check.mounted();
        x.make(1, 1, false);
        x.write(2, 0, 6, 100);
        x.write(2, 6, 4, 200);
        Check.cutPower(x);
        C.due("spoil(0)", x.spoil(0), true);
        return x;
    }

    private static void clearingHasThreeSteps() {
        for (int n = 0; n < 4; n++) {
            NodeLogFlash x = withBadBlock();
            int before = x.operations();
            x.arm(n);
            C.due("mount() cut after " + n, x.mount(), n < 3 ? NodeLogFlash.CUT : 0);
            C.due("operations()", x.operations(), before + n);
            C.due("word 0", x.peek(0), n == 0 ? 0 : n == 3 ? 6533 : -1);
            C.due("word 1", x.peek(1), n == 0 ? 0x5D810005 : -1);
            C.due("word 6", x.peek(6), n == 0 ? 0x5D82000A : -1);
            C.due("word 11", x.peek(11), n == 0 ? 102 : -1);
            C.due("word 12", x.peek(12), n < 2 ? 103 : -1);
            C.due("word 16", x.peek(16), n < 2 ? 0x5D820008 : -1);
            C.due("block 1 is as it was", x.freeWords(1), 23);
            C.due("mount() at last", x.mount(), 0);
            C.due("kindOf(2)", x.kindOf(2), 0);
        }
    }

    private static void clearsFromBlockZeroOn() {
        NodeLogFlash x = Check.mounted();
        Check.cutPower(x);
        C.due("spoil(96)", x.spoil(96), true);
        C.due("spoil(24)", x.spoil(24), true);
        x.arm(3);
        C.due("mount()", x.mount(), NodeLogFlash.CUT);
        C.due("freeWords(1)", x.freeWords(1), 23);
        C.due("freeWords(4)", x.freeWords(4), -1);
        C.due("peek(96)", x.peek(96), 0);
    }

    private static void sweepsWhatNoLongerCounts() {
        NodeLogFlash x = Check.mounted();
        x.make(1, 1, true);
        x.make(2, 1, false);
        x.write(3, 0, 2, 7);
        x.make(1, 2, false);
        Check.cutPower(x);
        C.due("spoil(1): the directory's link", x.spoil(1), true);
        int before = x.operations();
        x.arm(1);
        C.due("mount() cut in its sweep", x.mount(), NodeLogFlash.CUT);
        C.due("the first link behind it is marked", x.peek(6), 0x5D010005);
        C.due("the data is not yet", x.peek(11), 0x5D820006);
        C.due("mount()", x.mount(), 1);
        C.due("the data is marked", x.peek(11), 0x5D020006);
        C.due("the other link counts", x.peek(17), 0x5D810005);
        C.due("operations()", x.operations(), before + 2);
        C.due("deadWords(0)", x.deadWords(0), 16);
        C.due("entry(1, 2)", x.entry(1, 2), 4);
        C.due("entry(1, 1)", x.entry(1, 1), NodeLogFlash.MISSING);
    }

    /** An entry whose newest link lies in a directory that was lost is not found by its older link. */
    private static void olderLinkDoesNotComeBack() {
        NodeLogFlash x = Check.mounted();
        x.make(1, 1, true);
        x.make(1, 2, false);
        x.arm(5);
        C.due("move cut before its sweep", x.move(1, 2, 2, 3), NodeLogFlash.CUT);
        C.due("both links are valid", x.deadWords(0), 0);
        C.due("spoil(1)", x.spoil(1), true);
        C.due("mount()", x.mount(), 0);
        C.due("deadWords(0)", x.deadWords(0), 15);
    }

    /** Nine directories, each in the one before it, whose links lie in the opposite order. */
    private static void linksBeforeThoseOfTheirParents() {
        NodeLogFlash x = Check.mounted();
        for (int parent = 1; parent <= 9; parent++) {
            x.make(parent, 1, true);
        }
        for (int parent = 9; parent >= 1; parent--) {
            C.due("move", x.move(parent, 1, parent, 2), parent + 1);
        }
        C.due("mount()", x.mount(), 9);
        C.due("entry(9, 2)", x.entry(9, 2), 10);
        C.due("kindOf(10)", x.kindOf(10), 2);
        Check.cutPower(x);
        C.due("spoil(102): the link of the uppermost", x.peek(104) == 65538 && x.spoil(102), true);
        C.due("mount()", x.mount(), 0);
    }

    /** Of two copies of a node the one at the lower place counts. */
    private static void copiesOfACutCollection() {
        NodeLogFlash x = Check.mounted();
        x.make(1, 1, false);
        x.make(1, 2, false);
        x.remove(1, 1);
        x.write(3, 0, 4, 50);
        x.arm(5 + 8);
        C.due("collect() cut before it clears", x.collect(), NodeLogFlash.CUT);
        C.dueNode("the link's copy", x, 25, 0x5D810005, 2, 65538, 3);
        C.dueNode("the data's copy", x, 30, 0x5D820008, 3, 65536 * 3, 50, 51, 52, 53);
        C.due("mount()", x.mount(), 2);
        C.due("the copies are marked", x.deadWords(1), 13);
        C.due("what was first is not", x.deadWords(0), 5);
        C.due("read(3, 2)", x.read(3, 2), 52);
    }

    public static void main(String[] args) {
        firstMountClearsAllBlocks();
        firstMountCutAnywhere();
        clearingHasThreeSteps();
        clearsFromBlockZeroOn();
        sweepsWhatNoLongerCounts();
        olderLinkDoesNotComeBack();
        linksBeforeThoseOfTheirParents();
        copiesOfACutCollection();
        C.end();
    }
}
