/** Promise 6: move appends a link with another parent or name. */
final class Promise06MoveTest {
    private static final Check C = new Check();

    /** Directory 2 at (1, 1), directory 3 at (2, 1), directory 4 at (3, 1), file 5 at (1, 2), file 6 at (2, 2). */
    private static NodeLogFlash forest() {
        NodeLogFlash x = Check.mounted();
        x.make(1, 1, true);
        x.make(2, 1, true);
        x.make(3, 1, true);
        x.make(1, 2, false);
        x.make(2, 2, false);
        return x;
    }

    private static void appendsALinkAndMarksTheOlderOne() {
        NodeLogFlash x = forest();
        int before = x.operations();
        C.due("move(1, 2, 3, 9)", x.move(1, 2, 3, 9), 5);
        C.dueNode("the new link", x, 30, 0x5D810005, 6, 65536 * 3 + 9, 5);
        C.due("the older one is marked", x.peek(16), 0x5D010005);
        C.due("operations()", x.operations(), before + 6);
        C.due("entry(3, 9)", x.entry(3, 9), 5);
        C.due("entry(1, 2)", x.entry(1, 2), NodeLogFlash.MISSING);
        C.due("deadWords(0)", x.deadWords(0), 5);
        C.due("move(2, 1, 1, 2)", x.move(2, 1, 1, 2), 3);
        C.dueNode("a directory's link", x, 35, 0x5D810005, 7, 65538, 65536 + 3);
        C.due("what lies in it comes along", x.entry(3, 9), 5);
        C.due("size(2)", x.size(2), 1);
    }

    private static void aFileReplacesAFile() {
        NodeLogFlash x = forest();
        x.write(5, 0, 2, 50);
        x.write(6, 0, 3, 60);
        int before = x.operations();
        C.due("move(1, 2, 2, 2)", x.move(1, 2, 2, 2), 5);
        C.due("operations(): 5 words, 3 marks", x.operations(), before + 8);
        C.due("the older link is marked", x.peek(16), 0x5D010005);
        C.due("the link of the replaced file too", x.peek(25), 0x5D010005);
        C.due("and its data", x.peek(36), 0x5D020007);
        C.due("the data of the moved file is not", x.peek(30), 0x5D820006);
        C.due("kindOf(6)", x.kindOf(6), 0);
        C.due("entry(2, 2)", x.entry(2, 2), 5);
        C.due("read(5, 1)", x.read(5, 1), 51);
        C.due("size(5)", x.size(5), 2);
        C.due("make: 6 is free again", x.make(1, 9, false), 6);
        C.due("size(6)", x.size(6), 0);
    }

    private static void marksInTheOrderOfPlaces() {
        int[] places = {16, 25, 36};
        for (int n = 5; n < 8; n++) {
            NodeLogFlash x = forest();
            x.write(5, 0, 2, 50);
            x.write(6, 0, 3, 60);
            x.arm(n);
            C.due("move cut after " + n, x.move(1, 2, 2, 2), NodeLogFlash.CUT);
            for (int i = 0; i < 3; i++) {
                boolean marked = (x.peek(places[i]) & 0x00800000) == 0;
                C.due("mark " + i + " of a move cut after " + n, marked, i < n - 5);
            }
            C.due("mount(): four links and one data", x.mount(), 5);
            C.due("entry(2, 2): the new link counts", x.entry(2, 2), 5);
        }
    }

    private static void loops() {
        NodeLogFlash x = forest();
        int before = x.operations();
        C.due("into itself", x.move(1, 1, 2, 5), NodeLogFlash.LOOP);
        C.due("into its child", x.move(1, 1, 3, 5), NodeLogFlash.LOOP);
        C.due("into its grandchild", x.move(1, 1, 4, 5), NodeLogFlash.LOOP);
        C.due("LOOP comes before EXISTS", x.move(1, 1, 2, 2), NodeLogFlash.LOOP);
        C.due("a child into itself", x.move(2, 1, 3, 1), NodeLogFlash.LOOP);
        C.due("operations()", x.operations(), before);
        C.due("a child to where it may go", x.move(3, 1, 2, 3), 4);
        C.due("deeper to a sibling", x.move(2, 1, 4, 1), 3);
        C.due("entry(4, 1)", x.entry(4, 1), 3);
        C.due("now 4 can't go into 3", x.move(2, 3, 3, 1), NodeLogFlash.LOOP);
    }

    private static void toTheSamePlace() {
        NodeLogFlash x = forest();
        int before = x.operations();
        C.due("a file", x.move(1, 2, 1, 2), 5);
        C.due("a directory", x.move(2, 1, 2, 1), 3);
        C.due("operations()", x.operations(), before);
        C.due("another parent, the same name", x.move(1, 2, 3, 2), 5);
        C.due("the same parent, another name", x.move(3, 2, 3, 3), 5);
        C.due("entry(3, 3)", x.entry(3, 3), 5);
        fill(x, 5);
        C.due("nothing is done, so nothing is FULL", x.move(3, 3, 3, 3), 5);
    }

    private static void somethingIsThere() {
        NodeLogFlash x = forest();
        int before = x.operations();
        C.due("a file onto a directory", x.move(1, 2, 1, 1), NodeLogFlash.EXISTS);
        C.due("a directory onto a file", x.move(2, 1, 1, 2), NodeLogFlash.EXISTS);
        C.due("a directory onto a directory", x.move(3, 1, 1, 1), NodeLogFlash.EXISTS);
        C.due("operations()", x.operations(), before);
        fill(x, 5);
        C.due("EXISTS comes before FULL", x.move(1, 2, 1, 1), NodeLogFlash.EXISTS);
        C.due("FULL", x.move(1, 2, 1, 3), NodeLogFlash.FULL);
        C.due("FULL, a file onto a file", x.move(1, 2, 2, 2), NodeLogFlash.FULL);
        C.due("kindOf(6): it is still there", x.kindOf(6), 1);
    }

    private static void fill(NodeLogFlash x, int file) {
        for (int n = 6; n >= 1; n--) {
            for (int i = 0; i < 24 && x.write(file, 0, n, i) > 0; i++) {
                continue;
            }
        }
    }

    private static void refusals() {
        NodeLogFlash x = forest();
        int[] bad = {0, 13, -1, Integer.MIN_VALUE, Integer.MAX_VALUE};
        for (int number : bad) {
            C.due("parent " + number, x.move(number, 1, 1, 3), NodeLogFlash.BAD);
            C.due("toParent " + number, x.move(1, 2, number, 3), NodeLogFlash.BAD);
            C.due("BAD comes first", x.move(9, 2, number, 3), NodeLogFlash.BAD);
        }
        int[] badNames = {0, 10, -1, Integer.MIN_VALUE, Integer.MAX_VALUE};
        for (int number : badNames) {
            C.due("name " + number, x.move(1, number, 1, 3), NodeLogFlash.BAD);
            C.due("toName " + number, x.move(1, 2, 1, number), NodeLogFlash.BAD);
        }
        C.due("no such parent", x.move(9, 1, 1, 3), NodeLogFlash.MISSING);
        C.due("parent is a file", x.move(5, 1, 1, 3), NodeLogFlash.MISSING);
        C.due("no such name", x.move(1, 3, 1, 4), NodeLogFlash.MISSING);
        C.due("no such name, to itself", x.move(1, 3, 1, 3), NodeLogFlash.MISSING);
        C.due("no such toParent", x.move(1, 2, 9, 4), NodeLogFlash.MISSING);
        C.due("toParent is a file", x.move(1, 2, 6, 4), NodeLogFlash.MISSING);
        C.due("toParent is the file itself", x.move(1, 2, 5, 4), NodeLogFlash.MISSING);
        C.due("operations()", x.operations(), 18 + 25);
        Check.cutPower(x);
        C.due("OFF comes first", x.move(0, 0, 0, 0), NodeLogFlash.OFF);
    }

    private static void cuts() {
        for (int n = 0; n <= 6; n++) {
            NodeLogFlash x = forest();
            x.arm(n);
            C.due("move cut after " + n, x.move(1, 2, 2, 3), n < 6 ? NodeLogFlash.CUT : 5);
            C.due("mount()", x.mount(), 5);
            boolean moved = n >= 5;
            C.due("entry(1, 2)", x.entry(1, 2), moved ? NodeLogFlash.MISSING : 5);
            C.due("entry(2, 3)", x.entry(2, 3), moved ? 5 : NodeLogFlash.MISSING);
        }
    }

    public static void main(String[] args) {
        appendsALinkAndMarksTheOlderOne();
        aFileReplacesAFile();
        marksInTheOrderOfPlaces();
        loops();
        toTheSamePlace();
        somethingIsThere();
        refusals();
        cuts();
        C.end();
    }
}
