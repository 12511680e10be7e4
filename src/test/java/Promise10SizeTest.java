/** Promise 10: the size of a file, or the number of a directory's entries. */
final class Promise10SizeTest {
    private static final Check C = new Check();

    private static void files() {
        NodeLogFlash x = Check.mounted();
        x.make(1, 1, false);
        x.make(1, 2, false);
        C.due("size(2) without data", x.size(2), 0);
        x.write(2, 3, 2, 1);
        C.due("size(2)", x.size(2), 5);
        x.write(2, 0, 2, 1);
        C.due("size(2): the greatest end counts", x.size(2), 5);
        x.write(2, 10, 6, 1);
        C.due("size(2) at the edge", x.size(2), 16);
        C.due("size(3)", x.size(3), 0);
    }

    private static void directories() {
        NodeLogFlash x = Check.mounted();
        C.due("size(1)", x.size(1), 0);
        for (int name = 1; name <= 9; name++) {
            x.make(1, name, name == 4);
            C.due("size(1)", x.size(1), name);
        }
        C.due("size(5)", x.size(5), 0);
        x.make(5, 1, false);
        C.due("size(5)", x.size(5), 1);
        C.due("size(1): its own entries only", x.size(1), 9);
        x.move(1, 9, 5, 2);
        C.due("size(5)", x.size(5), 2);
        C.due("size(1)", x.size(1), 8);
        x.remove(5, 1);
        C.due("size(5)", x.size(5), 1);
    }

    private static void rightAfterAMark() {
        NodeLogFlash x = Check.mounted();
        x.make(1, 1, false);
        x.write(2, 0, 3, 1);
        x.write(2, 0, 4, 1);
        C.due("deadWords(0)", x.deadWords(0), 7);
        C.due("size(2)", x.size(2), 4);
    }

    private static void rightAfterAMount() {
        NodeLogFlash x = Check.mounted();
        x.make(1, 1, true);
        x.make(2, 1, false);
        x.write(3, 2, 4, 1);
        x.mount();
        C.due("size(3)", x.size(3), 6);
        Check.cutPower(x);
        x.spoil(11);
        x.mount();
        C.due("size(3) when its data went bad", x.size(3), 0);
        Check.cutPower(x);
        x.spoil(6);
        x.mount();
        C.due("size(3) when its link went bad", x.size(3), NodeLogFlash.MISSING);
    }

    private static void refusals() {
        NodeLogFlash x = Check.mounted();
        int[] bad = {0, 13, -1, Integer.MIN_VALUE, Integer.MAX_VALUE};
        for (int inode : bad) {
            C.due("size(" + inode + ")", x.size(inode), NodeLogFlash.BAD);
        }
        C.due("size(2)", x.size(2), NodeLogFlash.MISSING);
        C.due("size(12)", x.size(12), NodeLogFlash.MISSING);
        C.due("operations()", x.operations(), 18);
        Check.cutPower(x);
        C.due("size(1)", x.size(1), NodeLogFlash.OFF);
        C.due("size(0): OFF comes first", x.size(0), NodeLogFlash.OFF);
    }

    public static void main(String[] args) {
        files();
        directories();
        rightAfterAMark();
        rightAfterAMount();
        refusals();
        C.end();
    }
}
