/** Promise 11: the inode that a directory has under a name. */
final class Promise11EntryTest {
    private static final Check C = new Check();

    private static void finds() {
        NodeLogFlash x = Check.mounted();
        x.make(1, 9, true);
        x.make(2, 9, false);
        x.make(2, 1, true);
        C.due("entry(1, 9)", x.entry(1, 9), 2);
        C.due("entry(2, 9)", x.entry(2, 9), 3);
        C.due("entry(2, 1)", x.entry(2, 1), 4);
        C.due("entry(1, 1)", x.entry(1, 1), NodeLogFlash.MISSING);
        C.due("entry(4, 9): an empty directory", x.entry(4, 9), NodeLogFlash.MISSING);
        C.due("entry(3, 1): a file", x.entry(3, 1), NodeLogFlash.MISSING);
        C.due("entry(12, 1): not there", x.entry(12, 1), NodeLogFlash.MISSING);
        x.move(2, 9, 1, 3);
        C.due("entry(2, 9)", x.entry(2, 9), NodeLogFlash.MISSING);
        C.due("entry(1, 3)", x.entry(1, 3), 3);
        x.remove(1, 3);
        C.due("entry(1, 3)", x.entry(1, 3), NodeLogFlash.MISSING);
        C.due("operations()", x.operations(), 18 + 15 + 6 + 1);
    }

    private static void rightAfterAMount() {
        NodeLogFlash x = Check.mounted();
        x.make(1, 1, true);
        x.make(2, 2, false);
        x.mount();
        Check.cutPower(x);
        C.due("mount()", x.mount(), 2);
        C.due("entry(2, 2)", x.entry(2, 2), 3);
    }

    private static void refusals() {
        NodeLogFlash x = Check.mounted();
        x.make(1, 1, false);
        int[] bad = {0, 13, -1, Integer.MIN_VALUE, Integer.MAX_VALUE};
        for (int parent : bad) {
            C.due("entry(" + parent + ", 1)", x.entry(parent, 1), NodeLogFlash.BAD);
        }
        int[] badNames = {0, 10, -1, 11, Integer.MIN_VALUE, Integer.MAX_VALUE};
        for (int name : badNames) {
            C.due("entry(1, " + name + ")", x.entry(1, name), NodeLogFlash.BAD);
            C.due("entry(9, " + name + ")", x.entry(9, name), NodeLogFlash.BAD);
        }
        Check.cutPower(x);
        C.due("entry(1, 1)", x.entry(1, 1), NodeLogFlash.OFF);
        C.due("entry(0, 0): OFF comes first", x.entry(0, 0), NodeLogFlash.OFF);
    }

    public static void main(String[] args) {
        finds();
        rightAfterAMount();
        refusals();
        C.end();
    }
}
