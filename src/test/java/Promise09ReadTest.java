/** Promise 9: read answers the value of a cell. */
final class Promise09ReadTest {
    private static final Check C = new Check();

    private static void newestDataCounts() {
        NodeLogFlash x = Check.mounted();
        x.make(1, 1, false);
        for (int cell = 0; cell < 16; cell++) {
            C.due("read(2, " + cell + ") of an empty file", x.read(2, cell), 0);
        }
        x.write(2, 4, 4, 100);
        x.write(2, 6, 6, 200);
        x.write(2, 5, 1, -7);
        long[] want = {0, 0, 0, 0, 100, -7, 200, 201, 202, 203, 204, 205, 0, 0, 0, 0};
        for (int cell = 0; cell < 16; cell++) {
            C.due("read(2, " + cell + ")", x.read(2, cell), want[cell]);
        }
        int before = x.operations();
        x.read(2, 4);
        C.due("operations()", x.operations(), before);
    }

    private static void wholeRangeOfValues() {
        NodeLogFlash x = Check.mounted();
        x.make(1, 1, false);
        x.write(2, 0, 2, Integer.MAX_VALUE);
        x.write(2, 14, 2, -1);
        C.due("read(2, 0)", x.read(2, 0), 2147483647L);
        C.due("read(2, 1)", x.read(2, 1), -2147483648L);
        C.due("read(2, 14)", x.read(2, 14), -1);
        C.due("read(2, 15)", x.read(2, 15), 0);
    }

    private static void refusals() {
        NodeLogFlash x = Check.mounted();
        x.make(1, 1, false);
        x.make(1, 2, true);
        x.write(2, 0, 1, 5);
        int[] cells = {-1, 16, Integer.MIN_VALUE, Integer.MAX_VALUE};
        for (int cell : cells) {
            C.due("read(2, " + cell + ")", x.read(2, cell), NodeLogFlash.NO_CELL);
        }
        int[] inodes = {0, 1, 3, 4, 12, 13, -1, Integer.MIN_VALUE, Integer.MAX_VALUE};
        for (int inode : inodes) {
            C.due("read(" + inode + ", 0)", x.read(inode, 0), NodeLogFlash.NO_CELL);
        }
        Check.cutPower(x);
        C.due("read(2, 0) with the power off", x.read(2, 0), NodeLogFlash.NO_CELL);
        x.mount();
        C.due("read(2, 0)", x.read(2, 0), 5);
        x.remove(1, 1);
        C.due("read(2, 0) when it is gone", x.read(2, 0), NodeLogFlash.NO_CELL);
    }

    /** The values survive a collection that moves their node to another place. */
    private static void afterACollection() {
        NodeLogFlash x = Check.mounted();
        x.make(1, 1, false);
        x.write(2, 0, 2, 1);
        x.write(2, 3, 6, 30);
        x.write(2, 0, 2, 5);
        C.due("collect()", x.collect(), 6);
        C.due("read(2, 0)", x.read(2, 0), 5);
        C.due("read(2, 8)", x.read(2, 8), 35);
        C.due("read(2, 2)", x.read(2, 2), 0);
    }

    public static void main(String[] args) {
        newestDataCounts();
        wholeRangeOfValues();
        refusals();
        afterACollection();
        C.end();
    }
}
