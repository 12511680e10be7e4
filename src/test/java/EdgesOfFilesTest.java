/** The edges that the document names for write, read and size (promises 8 to 10). */
final class EdgesOfFilesTest {
    private static final Check C = new Check();
    private static final Refused R = new Refused(C);
    private static final int MIN = Integer.MIN_VALUE;
    private static final int MAX = Integer.MAX_VALUE;
    private static final int[] NO_INODES = {0, 13, -1, MIN, MAX, 65536 + 2, MIN + 2, (1 << 28) + 2, 2 - 65536};

    // write

    private static void valuesThatWrap() {
        for (int i = 0; i <= 6; i++) {
            NodeLogFlash x = States.forest();
            C.due("write from MAX - " + i, x.write(2, 10, 6, MAX - i) > 0, true);
            for (int k = 0; k < 6; k++) {
                long due = k <= i ? (long) MAX - i + k : (long) MIN + k - i - 1;
                C.due("read(2, " + (10 + k) + ")", x.read(2, 10 + k), due);
            }
        }
        NodeLogFlash y = States.forest();
        y.write(2, 0, 6, -3);
        for (int k = 0; k < 6; k++) {
            C.due("from -3 on", y.read(2, k), k - 3);
        }
        y.write(2, 0, 1, MIN);
        C.due("MIN", y.read(2, 0), MIN);
    }

    private static void writeWithThePowerOff() {
        R.due("write", States::off, x -> x.write(2, 0, 1, 1), NodeLogFlash.OFF);
        R.due("write, full", States::fullAndOff, x -> x.write(2, 0, 1, 1), NodeLogFlash.OFF);
    }

    private static void badWrite(int inode, int offset, int n) {
        String call = "write(" + inode + ", " + offset + ", " + n + ", 1)";
        R.due(call, States::forest, x -> x.write(inode, offset, n, 1), NodeLogFlash.BAD);
    }

    private static void goodWrite(int offset, int n) {
        NodeLogFlash x = States.forest();
        C.due("write(2, " + offset + ", " + n + ", 40)", x.write(2, offset, n, 40), 8);
        C.due("its first cell", x.read(2, offset), 40);
        C.due("its last cell", x.read(2, offset + n - 1), 40 + n - 1);
    }

    private static void writeBadInode() {
        for (int inode : NO_INODES) {
            badWrite(inode, 0, 1);
        }
        C.due("1 is not BAD", States.forest().write(1, 0, 1, 1), NodeLogFlash.MISSING);
        C.due("12 is not BAD", States.forest().write(12, 0, 1, 1), NodeLogFlash.MISSING);
    }

    private static void writeBadLength() {
        int[] lengths = {0, 7, 8, -1, MIN, MAX, 65536 + 1, MIN + 1};
        for (int n : lengths) {
            badWrite(2, 0, n);
            badWrite(2, 10, n);
        }
        for (int n = 1; n <= 6; n++) {
            goodWrite(0, n);
        }
    }

    private static void writeBadOffset() {
        int[] offsets = {-1, -2, -6, MIN, MIN + 1, -65536};
        for (int offset : offsets) {
            badWrite(2, offset, 1);
            badWrite(2, offset, 6);
        }
        goodWrite(0, 1);
    }

    private static void writeBeyondTheLastCell() {
        for (int n = 1; n <= 6; n++) {
            goodWrite(16 - n, n);
            badWrite(2, 17 - n, n);
            badWrite(2, 16, n);
            // Here offset + n is a negative number, or 16 at most, for one who adds them as ints.
            badWrite(2, MAX, n);
            badWrite(2, MAX - n + 1, n);
            badWrite(2, MAX - n, n);
            badWrite(2, 65536, n);
        }
    }

    private static void writeMissing() {
        R.due("the root", States::forest, x -> x.write(1, 0, 1, 1), NodeLogFlash.MISSING);
        R.due("a directory", States::forest, x -> x.write(3, 0, 1, 1), NodeLogFlash.MISSING);
        R.due("not there", States::forest, x -> x.write(8, 0, 1, 1), NodeLogFlash.MISSING);
        R.due("the greatest inode", States::forest, x -> x.write(12, 0, 1, 1), NodeLogFlash.MISSING);
        NodeLogFlash x = States.forest();
        x.remove(1, 1);
        C.due("a file that is gone", x.write(2, 0, 1, 1), NodeLogFlash.MISSING);
    }

    private static void writeFull() {
        R.due("the shortest", States::full, x -> x.write(2, 0, 1, 1), NodeLogFlash.FULL);
        R.due("the longest", States::full, x -> x.write(2, 0, 6, 1), NodeLogFlash.FULL);
        NodeLogFlash x = States.forest();
        for (int i = 0; i < 24 && x.write(5, 0, 6, 1) > 0; i++) {
            continue;
        }
        C.due("10 words have no place", x.write(2, 0, 6, 1), NodeLogFlash.FULL);
        C.due("freeWords(1)", x.freeWords(1), 8);
        C.due("9 words neither", x.write(2, 0, 5, 1), NodeLogFlash.FULL);
        C.due("8 words have one", x.write(2, 0, 4, 1) > 0, true);
        C.due("read(2, 3)", x.read(2, 3), 4);
    }

    private static void writeCut() {
        for (int n = 0; n <= 8; n++) {
            NodeLogFlash x = States.forest();
            x.arm(n);
            C.due("write with " + n, x.write(2, 0, 3, 90), n < 8 ? NodeLogFlash.CUT : 8);
            C.due("mount() after " + n, x.mount(), 7);
            C.due("read(2, 0) after " + n, x.read(2, 0), n < 7 ? 10 : 90);
            C.due("read(2, 2) after " + n, x.read(2, 2), n < 7 ? 12 : 92);
        }
    }

    // read

    private static void readWithThePowerOff() {
        R.due("read", States::off, x -> x.read(2, 0), NodeLogFlash.NO_CELL);
        C.due("a new object", new NodeLogFlash().read(2, 0), NodeLogFlash.NO_CELL);
    }

    /** The file 3 has a first cell and the file 2 a last one, so that no cell beyond the edge is like none. */
    private static NodeLogFlash neighbours() {
        NodeLogFlash x = Check.mounted();
        x.make(1, 1, false);
        x.make(1, 2, false);
        x.make(1, 3, false);
        for (int file = 2; file <= 4; file++) {
            x.write(file, 0, 1, 100 * file);
            x.write(file, 15, 1, 100 * file + 15);
        }
        return x;
    }

    private static void readOutsideTheCells() {
        int[] offsets = {-1, 16, 17, -16, 31, 32, MIN, MAX, 65536, MIN + 1, 1 << 28};
        for (int offset : offsets) {
            String call = "read(3, " + offset + ")";
            R.due(call, EdgesOfFilesTest::neighbours, x -> x.read(3, offset), NodeLogFlash.NO_CELL);
        }
        NodeLogFlash x = neighbours();
        C.due("the first cell", x.read(3, 0), 300);
        C.due("the last cell", x.read(3, 15), 315);
        C.due("the second cell", x.read(3, 1), 0);
        C.due("the last cell but one", x.read(3, 14), 0);
    }

    private static void readOfNoFile() {
        for (int inode : NO_INODES) {
            R.due("read(" + inode + ", 0)", States::forest, x -> x.read(inode, 0), NodeLogFlash.NO_CELL);
        }
        int[] others = {1, 3, 7, 8, 12};
        for (int inode : others) {
            R.due("read(" + inode + ", 0)", States::forest, x -> x.read(inode, 0), NodeLogFlash.NO_CELL);
        }
        NodeLogFlash x = States.forest();
        x.remove(1, 1);
        C.due("a file that is gone", x.read(2, 0), NodeLogFlash.NO_CELL);
        C.due("a new file", x.make(1, 1, false), 2);
        C.due("has no cell of it", x.read(2, 0), 0);
        NodeLogFlash y = States.noInode();
        y.write(12, 15, 1, 5);
        C.due("the greatest inode", y.read(12, 15), 5);
    }

    // size

    private static void entriesOfADirectory() {
        NodeLogFlash x = Check.mounted();
        C.due("an empty root", x.size(1), 0);
        for (int name = 1; name <= 9; name++) {
            x.make(1, name, name == 5);
            C.due("size(1)", x.size(1), name);
        }
        C.due("an empty directory", x.size(6), 0);
        x.make(6, 9, false);
        C.due("one with the greatest name", x.size(6), 1);
        C.due("what lies deeper is not counted", x.size(1), 9);
        x.remove(6, 9);
        C.due("empty again", x.size(6), 0);
    }

    private static void sizeWithThePowerOff() {
        R.due("size(1)", States::off, x -> x.size(1), NodeLogFlash.OFF);
        R.due("size(2)", States::off, x -> x.size(2), NodeLogFlash.OFF);
    }

    private static void sizeBad() {
        for (int inode : NO_INODES) {
            R.due("size(" + inode + ")", States::forest, x -> x.size(inode), NodeLogFlash.BAD);
        }
        C.due("1 is not BAD", States.forest().size(1), 3);
        C.due("12 is not BAD", States.noInode().size(12), 0);
    }

    private static void sizeMissing() {
        for (int number = 8; number <= 12; number++) {
            int inode = number;
            R.due("size(" + inode + ")", States::forest, x -> x.size(inode), NodeLogFlash.MISSING);
        }
        NodeLogFlash x = Check.mounted();
        C.due("the root is in an empty tree", x.size(1), 0);
        C.due("nothing else is", x.size(2), NodeLogFlash.MISSING);
        NodeLogFlash y = States.forest();
        y.remove(1, 1);
        C.due("a file that is gone", y.size(2), NodeLogFlash.MISSING);
        y.remove(1, 3);
        C.due("a directory that is gone", y.size(7), NodeLogFlash.MISSING);
    }

    public static void main(String[] args) {
        C.sentence("the values value, value + 1, .. (wrapping)", EdgesOfFilesTest::valuesThatWrap);
        C.sentence("write: OFF", EdgesOfFilesTest::writeWithThePowerOff);
        C.sentence("write: BAD when inode is not 1 .. 12", EdgesOfFilesTest::writeBadInode);
        C.sentence("write: BAD when n not 1 .. 6", EdgesOfFilesTest::writeBadLength);
        C.sentence("write: BAD when offset less than 0", EdgesOfFilesTest::writeBadOffset);
        C.sentence("write: BAD when offset + n more than 16", EdgesOfFilesTest::writeBeyondTheLastCell);
        C.sentence("write: MISSING when inode is no file of the tree", EdgesOfFilesTest::writeMissing);
        C.sentence("write: FULL", EdgesOfFilesTest::writeFull);
        C.sentence("write: CUT", EdgesOfFilesTest::writeCut);
        C.sentence("read: NO_CELL when the power is off", EdgesOfFilesTest::readWithThePowerOff);
        C.sentence("read: NO_CELL when offset is not 0 .. 15", EdgesOfFilesTest::readOutsideTheCells);
        C.sentence("read: NO_CELL when inode is no file of the tree", EdgesOfFilesTest::readOfNoFile);
        C.sentence("size: how many entries a directory has", EdgesOfFilesTest::entriesOfADirectory);
        C.sentence("size: OFF", EdgesOfFilesTest::sizeWithThePowerOff);
        C.sentence("size: BAD when inode is not 1 .. 12", EdgesOfFilesTest::sizeBad);
        C.sentence("size: MISSING when it is not in the tree (the root is)", EdgesOfFilesTest::sizeMissing);
        C.end();
    }
}
