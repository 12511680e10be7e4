/**
 * States of the flash that the tests of the edges begin with. Each has the file 2 at (1, 1), which can be
 * removed, and takes so few calls that all words can be looked at twice within 512 calls.
 */
final class States {
    private States() {
    }

    /**
     * File 2 at (1, 1) with the cells 10, 11, 12; directory 3 at (1, 2); directory 4 at (3, 1); file 5 at
     * (4, 1); file 6 at (3, 2); directory 7 at (1, 3), which is empty. Block 0 has 1 free word, block 1 has 8.
     */
    static NodeLogFlash forest() {
        NodeLogFlash x = Check.mounted();
        x.make(1, 1, false);
        x.write(2, 0, 3, 10);
        x.make(1, 2, true);
        x.make(3, 1, true);
        x.make(4, 1, false);
        x.make(3, 2, false);
        x.make(1, 3, true);
        return x;
    }

    /** The forest when no node at all can be appended: block 5 is the only one without a node. */
    static NodeLogFlash full() {
        return filled(forest());
    }

    /** The forest with the files 8 .. 12 at (1, 4) .. (1, 8): no inode is left. */
    static NodeLogFlash noInode() {
        NodeLogFlash x = forest();
        for (int name = 4; name <= 8; name++) {
            x.make(1, name, false);
        }
        return x;
    }

    static NodeLogFlash noInodeAndFull() {
        return filled(noInode());
    }

    static NodeLogFlash off() {
        return turnedOff(forest());
    }

    static NodeLogFlash fullAndOff() {
        return turnedOff(full());
    }

    static NodeLogFlash turnedOff(NodeLogFlash x) {
        x.arm(0);
        if (x.remove(1, 1) != NodeLogFlash.CUT) {
            throw new IllegalStateException("the power is still on");
        }
        return x;
    }

    /** Writes to the file 2, longest nodes first, until no node has a place. */
    static NodeLogFlash filled(NodeLogFlash x) {
        for (int n = 6; n >= 1; n--) {
            for (int i = 0; i < 24 && x.write(2, 0, n, 10) > 0; i++) {
                continue;
            }
        }
        return x;
    }

    /** Four nodes of five words each in all blocks but one: with the link of file 2 there are 20. */
    static NodeLogFlash twentyNodes() {
        NodeLogFlash x = Check.mounted();
        x.make(1, 1, false);
        x.make(1, 2, false);
        for (int i = 0; i < 18; i++) {
            x.write(2 + i % 2, i / 2, 1, 100 + i);
        }
        return x;
    }

    /**
     * No block is empty. Block 1 has the most dead words, 15, but no other block has room for its 8 words of
     * valid data; block 0 has 12, and a link that has a place.
     */
    static NodeLogFlash mostDeadCannotBeServed() {
        NodeLogFlash x = Check.mounted();
        x.make(1, 1, false);
        cutWrite(x, 2);
        cutWrite(x, 2);
        x.write(2, 0, 4, 10);
        cutWrite(x, 4);
        cutWrite(x, 3);
        int[] offsets = {4, 9, 11};
        for (int offset : offsets) {
            x.write(2, offset, 5, 100);
            x.write(2, offset, 5, 200);
        }
        x.arm(1);
        if (x.collect() != NodeLogFlash.CUT) {
            throw new IllegalStateException("the collection was not cut");
        }
        x.mount();
        x.write(2, 1, 5, 300);
        return x;
    }

    /** A write of which only the HEAD is programmed. */
    private static void cutWrite(NodeLogFlash x, int n) {
        x.arm(1);
        if (x.write(2, 0, n, 1) != NodeLogFlash.CUT) {
            throw new IllegalStateException("the write was not cut");
        }
        x.mount();
    }
}
