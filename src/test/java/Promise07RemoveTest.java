/** Promise 7: remove marks a link and sweeps. */
final class Promise07RemoveTest {
    private static final Check C = new Check();

    /** File 2 at (1, 1) with two nodes of data, directory 3 at (1, 2), file 4 at (3, 1). */
    private static NodeLogFlash forest() {
        NodeLogFlash x = Check.mounted();
        x.make(1, 1, false);
        x.write(2, 0, 3, 10);
        x.write(2, 3, 3, 20);
        x.make(1, 2, true);
        x.make(3, 1, false);
        return x;
    }

    private static void marksTheLinkAndTheData() {
        NodeLogFlash x = forest();
        int before = x.operations();
        C.due("remove(1, 1)", x.remove(1, 1), 2);
        C.due("operations()", x.operations(), before + 3);
        C.due("the link", x.peek(1), 0x5D010005);
        C.due("the data", x.peek(6), 0x5D020007);
        C.due("the other data", x.peek(13), 0x5D020007);
        C.due("another link", x.peek(25), 0x5D810005);
        C.due("deadWords(0)", x.deadWords(0), 19);
        C.due("kindOf(2)", x.kindOf(2), 0);
        C.due("entry(1, 1)", x.entry(1, 1), NodeLogFlash.MISSING);
        C.due("make: a new file has nothing of it", x.make(1, 1, false), 2);
        C.due("size(2)", x.size(2), 0);
        C.due("read(2, 0)", x.read(2, 0), 0);
    }

    private static void directories() {
        NodeLogFlash x = forest();
        int before = x.operations();
        C.due("remove(1, 2)", x.remove(1, 2), NodeLogFlash.NOT_EMPTY);
        C.due("operations()", x.operations(), before);
        C.due("remove(3, 1)", x.remove(3, 1), 4);
        C.due("remove(1, 2)", x.remove(1, 2), 3);
        C.due("operations()", x.operations(), before + 2);
        C.due("kindOf(3)", x.kindOf(3), 0);
        C.due("size(1)", x.size(1), 1);
    }

    private static void refusals() {
        NodeLogFlash x = forest();
        int[] bad = {0, 13, -1, Integer.MIN_VALUE, Integer.MAX_VALUE};
        for (int number : bad) {
            C.due("remove(" + number + ", 1)", x.remove(number, 1), NodeLogFlash.BAD);
        }
        int[] badNames = {0, 10, -1, Integer.MIN_VALUE, Integer.MAX_VALUE};
        for (int number : badNames) {
            C.due("remove(1, " + number + ")", x.remove(1, number), NodeLogFlash.BAD);
            C.due("remove(9, " + number + ")", x.remove(9, number), NodeLogFlash.BAD);
        }
        C.due("remove(12, 1)", x.remove(12, 1), NodeLogFlash.MISSING);
        C.due("remove(2, 1): a file", x.remove(2, 1), NodeLogFlash.MISSING);
        C.due("remove(1, 9)", x.remove(1, 9), NodeLogFlash.MISSING);
        C.due("operations()", x.operations(), 18 + 5 + 7 + 7 + 5 + 5);
        Check.cutPower(x);
        C.due("OFF comes first", x.remove(0, 0), NodeLogFlash.OFF);
    }

    private static void cuts() {
        for (int n = 0; n <= 3; n++) {
            NodeLogFlash x = forest();
            x.arm(n);
            C.due("remove cut after " + n, x.remove(1, 1), n < 3 ? NodeLogFlash.CUT : 2);
            C.due("the link", x.peek(1), n > 0 ? 0x5D010005 : 0x5D810005);
            C.due("the data", x.peek(6), n > 1 ? 0x5D020007 : 0x5D820007);
            C.due("the other data", x.peek(13), n > 2 ? 0x5D020007 : 0x5D820007);
            C.due("mount()", x.mount(), n == 0 ? 5 : 2);
            C.due("kindOf(2)", x.kindOf(2), n == 0 ? 1 : 0);
            C.due("deadWords(0)", x.deadWords(0), n == 0 ? 0 : 19);
        }
    }

    public static void main(String[] args) {
        marksTheLinkAndTheData();
        directories();
        refusals();
        cuts();
        C.end();
    }
}
