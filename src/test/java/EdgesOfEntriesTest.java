/** The edges that the document names for make, move, remove, entry and kindOf (promises 5 to 7, 11, 12). */
final class EdgesOfEntriesTest {
    private static final Check C = new Check();
    private static final Refused R = new Refused(C);
    private static final int MIN = Integer.MIN_VALUE;
    private static final int MAX = Integer.MAX_VALUE;
    /** Too small, too large, and numbers whose lower bits, or whose product with a small number, look right. */
    private static final int[] NO_INODES = {0, 13, -1, MIN, MAX, 65536 + 1, MIN + 1, (1 << 28) + 1, 1 - 65536};
    private static final int[] NO_NAMES = {0, 10, -1, MIN, MAX, 65536 + 1, MIN + 1, 11, 1 - 65536};

    // make

    private static void leastInode() {
        NodeLogFlash x = Check.mounted();
        C.due("the least of all", x.make(1, 1, false), 2);
        for (int inode = 3; inode <= 9; inode++) {
            C.due("make", x.make(1, inode - 1, inode == 9), inode);
        }
        C.due("make", x.make(9, 1, false), 10);
        C.due("make", x.make(9, 2, false), 11);
        C.due("the greatest of all", x.make(9, 3, false), 12);
        x.remove(9, 3);
        C.due("12 again", x.make(9, 3, true), 12);
        x.remove(1, 1);
        x.remove(9, 3);
        C.due("2 before 12", x.make(9, 4, true), 2);
        C.due("then 12", x.make(9, 5, true), 12);
    }

    /** The inode of a file that another one replaced, or whose link went bad, may be taken again. */
    private static void inodesThatNoLinkThatHoldsHas() {
        NodeLogFlash x = States.forest();
        x.move(1, 1, 3, 2);
        C.due("6 was replaced", x.make(1, 1, false), 6);
        NodeLogFlash y = States.off();
        C.due("spoil(13): directory 3, and all that lies in it", y.spoil(13), true);
        C.due("mount()", y.mount(), 3);
        for (int inode = 3; inode <= 6; inode++) {
            C.due("make", y.make(1, inode + 1, false), inode);
        }
        C.due("7 holds", y.make(1, 9, false), 8);
    }

    private static void makeWithThePowerOff() {
        R.due("make", States::off, x -> x.make(1, 9, false), NodeLogFlash.OFF);
        R.due("make, full", States::fullAndOff, x -> x.make(1, 9, false), NodeLogFlash.OFF);
    }

    private static void makeBad() {
        for (int number : NO_INODES) {
            R.due("make(" + number + ", 9)", States::forest, x -> x.make(number, 9, true), NodeLogFlash.BAD);
        }
        for (int number : NO_NAMES) {
            R.due("make(1, " + number + ")", States::forest, x -> x.make(1, number, true), NodeLogFlash.BAD);
        }
        C.due("the least parent and name", Check.mounted().make(1, 1, false), 2);
        C.due("the greatest name", Check.mounted().make(1, 9, false), 2);
        C.due("the greatest parent is none of the tree, but not BAD", Check.mounted().make(12, 9, false),
            NodeLogFlash.MISSING);
    }

    private static void makeMissing() {
        R.due("a file", States::forest, x -> x.make(2, 1, false), NodeLogFlash.MISSING);
        R.due("no inode of the tree", States::forest, x -> x.make(8, 1, false), NodeLogFlash.MISSING);
        R.due("the greatest inode", States::forest, x -> x.make(12, 1, true), NodeLogFlash.MISSING);
        NodeLogFlash x = States.forest();
        x.remove(1, 3);
        C.due("a directory that is gone", x.make(7, 1, false), NodeLogFlash.MISSING);
    }

    private static void makeExists() {
        R.due("a file there", States::forest, x -> x.make(1, 1, false), NodeLogFlash.EXISTS);
        R.due("a file there, a directory to be", States::forest, x -> x.make(1, 1, true), NodeLogFlash.EXISTS);
        R.due("a directory there", States::forest, x -> x.make(1, 2, false), NodeLogFlash.EXISTS);
        R.due("in a directory", States::forest, x -> x.make(3, 2, true), NodeLogFlash.EXISTS);
        NodeLogFlash x = States.forest();
        x.remove(1, 1);
        C.due("the name is free again", x.make(1, 1, true), 2);
        C.due("the same name elsewhere", x.make(7, 1, false), 8);
    }

    private static void makeFull() {
        R.due("no inode, but room", States::noInode, x -> x.make(1, 9, false), NodeLogFlash.FULL);
        R.due("no inode, a directory", States::noInode, x -> x.make(7, 1, true), NodeLogFlash.FULL);
        R.due("no inode and no room", States::noInodeAndFull, x -> x.make(1, 9, false), NodeLogFlash.FULL);
        R.due("no room", States::full, x -> x.make(1, 9, false), NodeLogFlash.FULL);
        NodeLogFlash x = States.noInode();
        C.due("with no inode left a file can be written", x.write(12, 0, 1, 5) > 0, true);
        C.due("and moved", x.move(1, 8, 1, 9), 12);
        C.due("and removed", x.remove(1, 9), 12);
        C.due("make", x.make(1, 9, false), 12);
    }

    private static void makeCut() {
        for (int n = 0; n <= 5; n++) {
            NodeLogFlash x = States.forest();
            x.arm(n);
            C.due("make with " + n, x.make(7, 1, true), n < 5 ? NodeLogFlash.CUT : 8);
            C.due("mount() after " + n, x.mount(), n < 5 ? 7 : 8);
            C.due("entry(7, 1) after " + n, x.entry(7, 1), n < 5 ? NodeLogFlash.MISSING : 8);
        }
    }

    // move

    private static void moveWithThePowerOff() {
        R.due("move", States::off, x -> x.move(1, 1, 1, 9), NodeLogFlash.OFF);
        R.due("move to where it is", States::off, x -> x.move(1, 1, 1, 1), NodeLogFlash.OFF);
    }

    private static void moveBad() {
        for (int number : NO_INODES) {
            R.due("parent " + number, States::forest, x -> x.move(number, 1, 1, 9), NodeLogFlash.BAD);
            R.due("toParent " + number, States::forest, x -> x.move(1, 1, number, 9), NodeLogFlash.BAD);
            R.due("both " + number, States::forest, x -> x.move(number, 1, number, 1), NodeLogFlash.BAD);
        }
        for (int number : NO_NAMES) {
            R.due("name " + number, States::forest, x -> x.move(1, number, 1, 9), NodeLogFlash.BAD);
            R.due("toName " + number, States::forest, x -> x.move(1, 1, 1, number), NodeLogFlash.BAD);
            R.due("both " + number, States::forest, x -> x.move(1, number, 1, number), NodeLogFlash.BAD);
        }
        C.due("the greatest name", States.forest().move(1, 1, 1, 9), 2);
    }

    private static void moveMissing() {
        R.due("parent is a file", States::forest, x -> x.move(2, 1, 1, 9), NodeLogFlash.MISSING);
        R.due("parent is not there", States::forest, x -> x.move(12, 1, 1, 9), NodeLogFlash.MISSING);
        R.due("it has not that name", States::forest, x -> x.move(1, 4, 1, 9), NodeLogFlash.MISSING);
        R.due("an empty directory", States::forest, x -> x.move(7, 1, 1, 9), NodeLogFlash.MISSING);
        R.due("not that name, to itself", States::forest, x -> x.move(1, 4, 1, 4), NodeLogFlash.MISSING);
        R.due("not that name, onto a file", States::forest, x -> x.move(1, 4, 1, 1), NodeLogFlash.MISSING);
        R.due("toParent is a file", States::forest, x -> x.move(1, 1, 6, 1), NodeLogFlash.MISSING);
        R.due("toParent is the file itself", States::forest, x -> x.move(1, 1, 2, 1), NodeLogFlash.MISSING);
        R.due("toParent is not there", States::forest, x -> x.move(1, 1, 12, 1), NodeLogFlash.MISSING);
        R.due("a directory, toParent is not there", States::forest, x -> x.move(1, 2, 8, 1), NodeLogFlash.MISSING);
    }

    private static void moveLoop() {
        R.due("into itself", States::forest, x -> x.move(1, 2, 3, 9), NodeLogFlash.LOOP);
        R.due("an empty one into itself", States::forest, x -> x.move(1, 3, 7, 1), NodeLogFlash.LOOP);
        R.due("into one that lies in it", States::forest, x -> x.move(1, 2, 4, 9), NodeLogFlash.LOOP);
        R.due("onto its own entry", States::forest, x -> x.move(1, 2, 3, 1), NodeLogFlash.LOOP);
        NodeLogFlash x = Check.mounted();
        for (int parent = 1; parent <= 11; parent++) {
            x.make(parent, 1, true);
        }
        for (int inner = 2; inner <= 12; inner++) {
            C.due("at any depth, into " + inner, x.move(1, 1, inner, 2), NodeLogFlash.LOOP);
        }
        C.due("the other way there is none", x.move(11, 1, 1, 2), 12);
        C.due("nor for one that lies beside it", x.move(1, 1, 12, 1), 2);
        C.due("now there is", x.move(1, 2, 11, 1), NodeLogFlash.LOOP);
        NodeLogFlash y = States.forest();
        C.due("a file is no directory", y.move(3, 2, 4, 9), 6);
        C.due("out of its own parent", y.move(3, 1, 1, 9), 4);
        C.due("entry(4, 1)", y.entry(4, 1), 5);
    }

    private static void moveToWhereItIs() {
        R.due("a file", States::forest, x -> x.move(1, 1, 1, 1), 2);
        R.due("a directory", States::forest, x -> x.move(3, 1, 3, 1), 4);
        R.due("an empty directory", States::forest, x -> x.move(1, 3, 1, 3), 7);
        R.due("a file, full", States::full, x -> x.move(1, 1, 1, 1), 2);
        R.due("a directory, full", States::full, x -> x.move(1, 2, 1, 2), 3);
        NodeLogFlash x = States.forest();
        int before = x.operations();
        C.due("the same name in another parent", x.move(1, 1, 7, 1), 2);
        C.due("another name in the same parent", x.move(7, 1, 7, 2), 2);
        C.due("operations(): two links, two marks", x.operations(), before + 12);
    }

    private static void moveExists() {
        R.due("a file onto a directory", States::forest, x -> x.move(1, 1, 1, 2), NodeLogFlash.EXISTS);
        R.due("a file onto an empty directory", States::forest, x -> x.move(1, 1, 1, 3), NodeLogFlash.EXISTS);
        R.due("a directory onto a file", States::forest, x -> x.move(1, 3, 1, 1), NodeLogFlash.EXISTS);
        R.due("a directory onto a directory", States::forest, x -> x.move(1, 3, 1, 2), NodeLogFlash.EXISTS);
        R.due("a directory onto an empty one", States::forest, x -> x.move(3, 1, 1, 3), NodeLogFlash.EXISTS);
        R.due("a directory onto the one it lies in", States::forest, x -> x.move(3, 1, 1, 2), NodeLogFlash.EXISTS);
    }

    private static void fileReplacesFile() {
        NodeLogFlash x = States.forest();
        x.write(6, 0, 1, 60);
        C.due("mount()", x.mount(), 8);
        C.due("move(1, 1, 3, 2)", x.move(1, 1, 3, 2), 2);
        C.due("entry(3, 2)", x.entry(3, 2), 2);
        C.due("entry(1, 1)", x.entry(1, 1), NodeLogFlash.MISSING);
        C.due("it is gone, kindOf(6)", x.kindOf(6), 0);
        C.due("read(6, 0)", x.read(6, 0), NodeLogFlash.NO_CELL);
        C.due("read(2, 0)", x.read(2, 0), 10);
        C.due("mount(): its link and its data are gone", x.mount(), 6);
        C.due("size(3)", x.size(3), 2);
    }

    private static void moveFull() {
        R.due("to another name", States::full, x -> x.move(1, 1, 1, 9), NodeLogFlash.FULL);
        R.due("onto a file", States::full, x -> x.move(1, 1, 3, 2), NodeLogFlash.FULL);
        R.due("a directory", States::full, x -> x.move(1, 3, 3, 9), NodeLogFlash.FULL);
        C.due("no inode is needed", States.noInode().move(1, 1, 1, 9), 2);
    }

    private static void moveCut() {
        for (int n = 0; n <= 6; n++) {
            NodeLogFlash x = States.forest();
            x.arm(n);
            C.due("move with " + n, x.move(3, 2, 7, 9), n < 6 ? NodeLogFlash.CUT : 6);
            C.due("mount() after " + n, x.mount(), 7);
            C.due("entry(3, 2) after " + n, x.entry(3, 2), n < 5 ? 6 : NodeLogFlash.MISSING);
            C.due("entry(7, 9) after " + n, x.entry(7, 9), n < 5 ? NodeLogFlash.MISSING : 6);
        }
    }

    // remove

    /** The first operation marks the link, wherever it lies; what its file had is marked by the sweep. */
    private static void removeMarksTheLinkFirst() {
        NodeLogFlash x = Check.mounted();
        x.make(1, 1, false);
        x.write(2, 0, 6, 1);
        x.move(1, 1, 1, 2);
        C.due("the link lies behind its data", x.peek(16), 0x5D810005);
        x.arm(1);
        C.due("remove", x.remove(1, 2), NodeLogFlash.CUT);
        C.due("the link is marked", x.peek(16), 0x5D010005);
        C.due("the data is not", x.peek(6), 0x5D82000A);
        C.due("mount()", x.mount(), 0);
        NodeLogFlash y = States.forest();
        int before = y.operations();
        C.due("an empty directory", y.remove(1, 3), 7);
        C.due("operations(): one mark", y.operations(), before + 1);
        C.due("a file without data", y.remove(3, 2), 6);
        C.due("operations(): one mark", y.operations(), before + 2);
    }

    private static void removeWhenFull() {
        NodeLogFlash x = States.full();
        C.due("remove needs no room", x.remove(1, 1), 2);
        C.due("kindOf(2)", x.kindOf(2), 0);
    }

    private static void removeWithThePowerOff() {
        R.due("remove", States::off, x -> x.remove(1, 1), NodeLogFlash.OFF);
        R.due("remove, full", States::fullAndOff, x -> x.remove(1, 1), NodeLogFlash.OFF);
    }

    private static void removeBad() {
        for (int number : NO_INODES) {
            R.due("remove(" + number + ", 1)", States::forest, x -> x.remove(number, 1), NodeLogFlash.BAD);
        }
        for (int number : NO_NAMES) {
            R.due("remove(1, " + number + ")", States::forest, x -> x.remove(1, number), NodeLogFlash.BAD);
        }
    }

    private static void removeMissing() {
        R.due("parent is a file", States::forest, x -> x.remove(2, 1), NodeLogFlash.MISSING);
        R.due("parent is not there", States::forest, x -> x.remove(12, 9), NodeLogFlash.MISSING);
        R.due("it has not that name", States::forest, x -> x.remove(1, 9), NodeLogFlash.MISSING);
        R.due("an empty directory", States::forest, x -> x.remove(7, 1), NodeLogFlash.MISSING);
        NodeLogFlash x = States.forest();
        C.due("remove(1, 1)", x.remove(1, 1), 2);
        C.due("remove(1, 1) again", x.remove(1, 1), NodeLogFlash.MISSING);
    }

    private static void removeNotEmpty() {
        R.due("two entries", States::forest, x -> x.remove(1, 2), NodeLogFlash.NOT_EMPTY);
        R.due("one entry", States::forest, x -> x.remove(3, 1), NodeLogFlash.NOT_EMPTY);
        NodeLogFlash x = States.forest();
        C.due("remove(4, 1)", x.remove(4, 1), 5);
        C.due("no entry", x.remove(3, 1), 4);
        C.due("one entry", x.remove(1, 2), NodeLogFlash.NOT_EMPTY);
        x.move(3, 2, 7, 9);
        C.due("its last entry was moved", x.remove(1, 2), 3);
        C.due("the entry with the greatest name", x.remove(1, 3), NodeLogFlash.NOT_EMPTY);
    }

    private static void removeCut() {
        for (int n = 0; n <= 2; n++) {
            NodeLogFlash x = States.forest();
            x.arm(n);
            C.due("remove with " + n, x.remove(1, 1), n < 2 ? NodeLogFlash.CUT : 2);
            C.due("mount() after " + n, x.mount(), n < 1 ? 7 : 5);
            C.due("entry(1, 1) after " + n, x.entry(1, 1), n < 1 ? 2 : NodeLogFlash.MISSING);
        }
    }

    // entry

    private static void entryWithThePowerOff() {
        R.due("entry", States::off, x -> x.entry(1, 1), NodeLogFlash.OFF);
    }

    private static void entryBad() {
        for (int number : NO_INODES) {
            R.due("entry(" + number + ", 1)", States::forest, x -> x.entry(number, 1), NodeLogFlash.BAD);
        }
        for (int number : NO_NAMES) {
            R.due("entry(1, " + number + ")", States::forest, x -> x.entry(1, number), NodeLogFlash.BAD);
        }
    }

    private static void entryMissing() {
        R.due("parent is a file", States::forest, x -> x.entry(2, 1), NodeLogFlash.MISSING);
        R.due("parent is not there", States::forest, x -> x.entry(12, 9), NodeLogFlash.MISSING);
        R.due("it has not that name", States::forest, x -> x.entry(1, 9), NodeLogFlash.MISSING);
        R.due("an empty directory", States::forest, x -> x.entry(7, 1), NodeLogFlash.MISSING);
        R.due("an entry that is there", States::forest, x -> x.entry(4, 1), 5);
    }

    // kindOf

    private static void kinds() {
        NodeLogFlash x = States.noInode();
        int[] due = {2, 1, 2, 2, 1, 1, 2, 1, 1, 1, 1, 1};
        for (int inode = 1; inode <= 12; inode++) {
            C.due("kindOf(" + inode + ")", x.kindOf(inode), due[inode - 1]);
        }
        NodeLogFlash empty = Check.mounted();
        C.due("the root of an empty tree", empty.kindOf(1), 2);
    }

    private static void kindOfAnyOtherNumber() {
        int[] none = {8, 12};
        for (int number : none) {
            R.due("kindOf(" + number + ")", States::forest, x -> x.kindOf(number), 0);
        }
        int[] wrapping = {(1 << 28) + 2, (1 << 16) + 2, MIN + 2, 2 - 65536};
        for (int number : wrapping) {
            R.due("kindOf(" + number + ")", States::forest, x -> x.kindOf(number), 0);
        }
        for (int number : NO_INODES) {
            R.due("kindOf(" + number + ")", States::forest, x -> x.kindOf(number), 0);
        }
    }

    private static void kindOfWithThePowerOff() {
        R.due("kindOf(1)", States::off, x -> x.kindOf(1), NodeLogFlash.OFF);
        R.due("kindOf(2)", States::off, x -> x.kindOf(2), NodeLogFlash.OFF);
        R.due("kindOf(12)", States::off, x -> x.kindOf(12), NodeLogFlash.OFF);
    }

    private static void make() {
        C.sentence("appends a link with the least inode 2 .. 12 that no link that holds has", () -> {
            leastInode();
            inodesThatNoLinkThatHoldsHas();
        });
        C.sentence("make: OFF", EdgesOfEntriesTest::makeWithThePowerOff);
        C.sentence("make: BAD when parent is not 1 .. 12 or name not 1 .. 9", EdgesOfEntriesTest::makeBad);
        C.sentence("make: MISSING when parent is no directory of the tree", EdgesOfEntriesTest::makeMissing);
        C.sentence("make: EXISTS when parent has that name", EdgesOfEntriesTest::makeExists);
        C.sentence("make: FULL also when there is no such inode", EdgesOfEntriesTest::makeFull);
        C.sentence("make: CUT", EdgesOfEntriesTest::makeCut);
    }

    private static void move() {
        C.sentence("move: OFF", EdgesOfEntriesTest::moveWithThePowerOff);
        C.sentence("move: BAD when a parent is not 1 .. 12 or a name not 1 .. 9", EdgesOfEntriesTest::moveBad);
        C.sentence("move: MISSING when parent is no directory of the tree or has not that name, "
            + "or toParent is no directory of the tree", EdgesOfEntriesTest::moveMissing);
        C.sentence("move: LOOP when the entry is a directory and toParent is it or lies in it at any depth",
            EdgesOfEntriesTest::moveLoop);
        C.sentence("move: when both parents and both names are the same, the inode is answered and nothing is done",
            EdgesOfEntriesTest::moveToWhereItIs);
        C.sentence("move: EXISTS when toParent has toName and one of the two entries is a directory",
            EdgesOfEntriesTest::moveExists);
        C.sentence("move: (a file there is replaced by a file: it is gone)", EdgesOfEntriesTest::fileReplacesFile);
        C.sentence("move: FULL", EdgesOfEntriesTest::moveFull);
        C.sentence("move: CUT", EdgesOfEntriesTest::moveCut);
    }

    private static void remove() {
        C.sentence("remove: marks its link by one operation; then there is a sweep", () -> {
            removeMarksTheLinkFirst();
            removeWhenFull();
        });
        C.sentence("remove: OFF", EdgesOfEntriesTest::removeWithThePowerOff);
        C.sentence("remove: BAD when parent is not 1 .. 12 or name not 1 .. 9", EdgesOfEntriesTest::removeBad);
        C.sentence("remove: MISSING when parent is no directory of the tree or has not that name",
            EdgesOfEntriesTest::removeMissing);
        C.sentence("remove: NOT_EMPTY when it is a directory that has an entry", EdgesOfEntriesTest::removeNotEmpty);
        C.sentence("remove: CUT", EdgesOfEntriesTest::removeCut);
    }

    public static void main(String[] args) {
        make();
        move();
        remove();
        C.sentence("entry: OFF", EdgesOfEntriesTest::entryWithThePowerOff);
        C.sentence("entry: BAD when parent is not 1 .. 12 or name not 1 .. 9", EdgesOfEntriesTest::entryBad);
        C.sentence("entry: MISSING when parent is no directory of the tree or has not that name",
            EdgesOfEntriesTest::entryMissing);
        C.sentence("kindOf: 2 for a directory of the tree (the root is one), 1 for a file of the tree",
            EdgesOfEntriesTest::kinds);
        C.sentence("kindOf: 0 for any other number", EdgesOfEntriesTest::kindOfAnyOtherNumber);
        C.sentence("kindOf: OFF", EdgesOfEntriesTest::kindOfWithThePowerOff);
        C.end();
    }
}
