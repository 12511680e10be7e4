/** Promise 5: make appends a link with the least unused inode. */
final class Promise05MakeTest {
    private static final Check C = new Check();

    private static void appendsALink() {
        NodeLogFlash x = Check.mounted();
        C.due("make(1, 1, true)", x.make(1, 1, true), 2);
        C.due("make(2, 9, false)", x.make(2, 9, false), 3);
        C.dueNode("the directory", x, 1, 0x5D810005, 1, 65536 + 1, 65536 + 2);
        C.dueNode("the file", x, 6, 0x5D810005, 2, 65536 * 2 + 9, 3);
        C.due("peek(5)", x.peek(5), 660860485);
        C.due("peek(11)", x.peek(11), -1);
        C.due("operations()", x.operations(), 18 + 10);
        C.due("entry(1, 1)", x.entry(1, 1), 2);
        C.due("entry(2, 9)", x.entry(2, 9), 3);
        C.due("kindOf(2)", x.kindOf(2), 2);
        C.due("kindOf(3)", x.kindOf(3), 1);
    }

    private static void takesTheLeastInode() {
        NodeLogFlash x = Check.mounted();
        for (int name = 1; name <= 4; name++) {
            C.due("make(1, " + name + ")", x.make(1, name, false), name + 1);
        }
        x.remove(1, 3);
        x.remove(1, 1);
        C.due("make: 2 is free again", x.make(1, 5, true), 2);
        C.due("make: 4 is free again", x.make(1, 6, false), 4);
        C.due("make", x.make(1, 7, false), 6);
    }

    private static void noInodeIsLeft() {
        NodeLogFlash x = Check.mounted();
        for (int name = 1; name <= 9; name++) {
            C.due("make(1, " + name + ")", x.make(1, name, name == 1), name + 1);
        }
        C.due("make(2, 1)", x.make(2, 1, false), 11);
        C.due("make(2, 2)", x.make(2, 2, false), 12);
        int before = x.operations();
        C.due("make(2, 3): no inode", x.make(2, 3, false), NodeLogFlash.FULL);
        C.due("make(2, 2): EXISTS comes first", x.make(2, 2, false), NodeLogFlash.EXISTS);
        C.due("make(3, 2): MISSING comes first", x.make(3, 2, false), NodeLogFlash.MISSING);
        C.due("operations()", x.operations(), before);
        x.remove(1, 5);
        C.due("make(2, 3)", x.make(2, 3, false), 6);
    }

    /** Eleven directories, each in the one before it. */
    private static void greatestDepth() {
        NodeLogFlash x = Check.mounted();
        for (int parent = 1; parent < 12; parent++) {
            C.due("make(" + parent + ", 9)", x.make(parent, 9, true), parent + 1);
        }
        C.due("mount()", x.mount(), 11);
        for (int inode = 1; inode <= 12; inode++) {
            C.due("kindOf(" + inode + ")", x.kindOf(inode), 2);
        }
        C.due("LOOP at the greatest depth", x.move(1, 9, 12, 9), NodeLogFlash.LOOP);
        C.due("remove(11, 9)", x.remove(11, 9), 12);
        C.due("remove(10, 9)", x.remove(10, 9), 11);
        C.due("make(10, 1, true)", x.make(10, 1, true), 11);
        C.due("move(10, 1, 1, 1)", x.move(10, 1, 1, 1), 11);
        C.due("make(11, 9, false)", x.make(11, 9, false), 12);
        C.due("write(12, 10, 6, 5)", x.write(12, 10, 6, 5), 13);
        C.due("read(12, 15)", x.read(12, 15), 10);
        C.due("size(12)", x.size(12), 16);
        C.due("entry(11, 9)", x.entry(11, 9), 12);
    }

    private static void entriesOfTheLastInode() {
        NodeLogFlash x = Check.mounted();
        for (int name = 1; name <= 9; name++) {
            x.make(1, name, name == 9);
        }
        x.make(10, 1, true);
        C.due("make(11, 1, true)", x.make(11, 1, true), 12);
        x.remove(1, 1);
        C.due("make(12, 9, false)", x.make(12, 9, false), 2);
        C.due("entry(12, 9)", x.entry(12, 9), 2);
        C.due("size(12)", x.size(12), 1);
        C.due("make(12, 9, true)", x.make(12, 9, true), NodeLogFlash.EXISTS);
    }

    private static void noPlaceIsLeft() {
        NodeLogFlash x = Check.mounted();
        x.make(1, 1, false);
        for (int i = 0; i < 14; i++) {
            x.write(2, 0, 6, i);
        }
        // Blocks 0 .. 4 have too little left for 10 words; a link still fits behind 15 words.
        C.due("write", x.write(2, 0, 6, 1), NodeLogFlash.FULL);
        C.due("freeWords(0)", x.freeWords(0), 8);
        C.due("make behind the last node of block 0", x.make(1, 2, false), 3);
        C.due("freeWords(0)", x.freeWords(0), 3);
        C.due("freeWords(5)", x.freeWords(5), 23);
        int[] before = Check.words(x);
        int operations = x.operations();
        C.due("make: only in the last empty block", x.make(1, 3, false), NodeLogFlash.FULL);
        C.due("make: EXISTS comes first", x.make(1, 2, false), NodeLogFlash.EXISTS);
        C.due("operations()", x.operations(), operations);
        for (int p = 0; p < 144; p++) {
            C.due("peek(" + p + ")", x.peek(p), before[p]);
        }
    }

    private static void refusals() {
        NodeLogFlash x = Check.mounted();
        C.due("make(1, 1, false)", x.make(1, 1, false), 2);
        int[] parents = {0, 13, -1, Integer.MIN_VALUE, Integer.MAX_VALUE};
        for (int parent : parents) {
            C.due("make(" + parent + ", 1)", x.make(parent, 1, true), NodeLogFlash.BAD);
        }
        int[] names = {0, 10, -1, Integer.MIN_VALUE, Integer.MAX_VALUE};
        for (int name : names) {
            C.due("make(1, " + name + ")", x.make(1, name, true), NodeLogFlash.BAD);
            C.due("make(7, " + name + "): BAD comes first", x.make(7, name, true), NodeLogFlash.BAD);
        }
        C.due("make(12, 9): not there", x.make(12, 9, false), NodeLogFlash.MISSING);
        C.due("make(2, 1): a file", x.make(2, 1, false), NodeLogFlash.MISSING);
        C.due("make(1, 1): there", x.make(1, 1, true), NodeLogFlash.EXISTS);
        C.due("operations()", x.operations(), 23);
        Check.cutPower(x);
        C.due("make(0, 0): OFF comes first", x.make(0, 0, false), NodeLogFlash.OFF);
    }

    private static void versions() {
        NodeLogFlash x = Check.mounted();
        x.make(1, 1, false);
        x.make(1, 2, false);
        x.remove(1, 2);
        x.make(1, 3, false);
        C.due("1 more than the greatest of a valid node", x.peek(12), 2);
        x.remove(1, 1);
        x.make(1, 1, false);
        C.due("the greatest counts", x.peek(17), 3);
    }

    private static void cuts() {
        for (int n = 0; n < 6; n++) {
            NodeLogFlash x = Check.mounted();
            x.arm(n);
            C.due("make cut after " + n, x.make(1, 1, true), n < 5 ? NodeLogFlash.CUT : 2);
            C.due("operations()", x.operations(), 18 + Math.min(n, 5));
            C.due("deadWords(0)", x.deadWords(0), n == 0 || n >= 5 ? 0 : 5);
            C.due("freeWords(0)", x.freeWords(0), n == 0 ? 23 : 18);
            C.due("mount()", x.mount(), n < 5 ? 0 : 1);
            C.due("kindOf(2)", x.kindOf(2), n < 5 ? 0 : 2);
        }
    }

    public static void main(String[] args) {
        appendsALink();
        takesTheLeastInode();
        noInodeIsLeft();
        greatestDepth();
        entriesOfTheLastInode();
        noPlaceIsLeft();
        refusals();
        versions();
        cuts();
        C.end();
    }
}
