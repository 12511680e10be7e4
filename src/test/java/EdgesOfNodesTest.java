/** The edges that the document names in 'Terms' for nodes, for what counts and for the sweep. */
final class EdgesOfNodesTest {
    private static final Check C = new Check();

    private static NodeLogFlash withFile() {
        NodeLogFlash x = Check.mounted();
        x.make(1, 1, false);
        return x;
    }

    /** An empty block, nodes up to the last word but one, and a full block. */
    private static void freeWordsBehindTheLastNode() {
        NodeLogFlash x = Check.mounted();
        C.due("freeWords(0) without a node", x.freeWords(0), 23);
        x.make(1, 1, false);
        C.due("the first node is at word 1", x.peek(1), 0x5D810005);
        C.due("freeWords(0)", x.freeWords(0), 18);
        x.write(2, 0, 4, -1);
        C.due("the next is right behind it", x.peek(6), 0x5D820008);
        C.due("cells of -1 are not free", x.freeWords(0), 10);
        C.due("behind the last one there is -1", x.peek(14), -1);
        NodeLogFlash y = States.turnedOff(x);
        C.due("freeWords(0) with the power off", y.freeWords(0), 10);
        y.mount();
        y.write(2, 4, 5, -1);
        C.due("one word is left", y.freeWords(0), 1);
        C.due("it is the last", y.peek(23), -1);
        NodeLogFlash z = withFile();
        z.write(2, 0, 4, -1);
        z.write(2, 4, 6, -1);
        C.due("a full block", z.freeWords(0), 0);
        C.due("freeWords(1)", z.freeWords(1), 23);
    }

    /** The HEAD of each length of data and of a link, before and after its mark: no other bit changes. */
    private static void marks() {
        for (int n = 1; n <= 6; n++) {
            NodeLogFlash x = withFile();
            x.write(2, 0, n, 5);
            C.due("HEAD of " + n + " cells", x.peek(6), 0x5D820004 + n);
            int[] before = Check.words(x);
            x.remove(1, 1);
            C.due("HEAD of a marked link", x.peek(1), 0x5D010005);
            C.due("HEAD of " + n + " cells, marked", x.peek(6), 0x5D020004 + n);
            C.dueWords("the link's other words", x, before, 2, 6);
            C.dueWords("the data's other words", x, before, 7, 144);
        }
    }

    private static void versionsFromOneOn() {
        NodeLogFlash x = Check.mounted();
        x.make(1, 1, false);
        C.due("the first version", x.peek(2), 1);
        C.due("the next", x.write(2, 0, 1, 1), 2);
        C.due("its word 1", x.peek(7), 2);
    }

    /** The directory 12 at (11, 9), then the file 11 at (12, 9): the greatest numbers of a link. */
    private static void greatestNumbersOfALink() {
        NodeLogFlash x = Check.mounted();
        for (int parent = 1; parent <= 11; parent++) {
            x.make(parent, 9, true);
        }
        // Block b has the nodes 4 * b .. 4 * b + 3, so that of the inode 12 is the third of block 2.
        C.dueNode("directory 12", x, 59, 0x5D810005, 11, 65536 * 11 + 9, 65536 + 12);
        C.due("move(11, 9, 1, 8)", x.move(11, 9, 1, 8), 12);
        C.due("remove(10, 9)", x.remove(10, 9), 11);
        C.due("make(12, 9, false)", x.make(12, 9, false), 11);
        C.dueNode("file 11", x, 73, 0x5D810005, 13, 65536 * 12 + 9, 11);
        C.due("move(1, 8, 2, 1)", x.move(1, 8, 2, 1), 12);
        C.due("entry(12, 9)", x.entry(12, 9), 11);
    }

    private static void lengthsOfData() {
        for (int n = 1; n <= 6; n++) {
            NodeLogFlash x = withFile();
            C.due("write of " + n, x.write(2, 16 - n, n, 70), 2);
            C.due("HEAD of " + n, x.peek(6), 0x5D820000 + n + 4);
            C.due("word 2, the last offset", x.peek(8), 65536 * 2 + 16 - n);
            C.due("freeWords(0)", x.freeWords(0), 23 - 5 - (n + 4));
            C.due("the last cell", x.read(2, 15), 70 + n - 1);
            C.due("the cell before the first", x.read(2, 15 - n), 0);
            C.due("valid", x.mount(), 2);
        }
    }

    /** What c is before a single cell of the file 2 at offset 0 with version 2 is added to it. */
    private static int sumBeforeTheCell() {
        int c = 7;
        int[] words = {0x5D820005, 2, 65536 * 2};
        for (int word : words) {
            c = 31 * c + word;
        }
        return 31 * c;
    }

    private static void checkOf(int c, int due) {
        NodeLogFlash x = withFile();
        C.due("write for c = " + c, x.write(2, 0, 1, c - sumBeforeTheCell()), 2);
        C.due("CHECK for c = " + c, x.peek(10), due);
        C.due("mount(): it is valid", x.mount(), 2);
        C.due("deadWords(0)", x.deadWords(0), 0);
        Check.cutPower(x);
        C.due("spoil(6)", x.spoil(6), true);
        C.due("mount(): 0 is never a CHECK", x.mount(), 1);
    }

    private static void leastAndGreatestCheck() {
        checkOf(0, 1);
        checkOf(0x3FFFFFFF, 0x40000000);
        checkOf(0x40000000, 1);
        checkOf(-1, 0x40000000);
        checkOf(Integer.MIN_VALUE, 1);
        checkOf(Integer.MAX_VALUE, 0x40000000);
    }

    /** The last word is what makes a node valid; without it, or with 0 there, it is not. */
    private static void validWithItsLastWord() {
        for (int n = 1; n <= 7; n++) {
            NodeLogFlash x = withFile();
            x.arm(n);
            x.write(2, 0, 3, 10);
            C.due("deadWords(0), " + n + " words of 7", x.deadWords(0), n < 7 ? 7 : 0);
            C.due("freeWords(0), " + n + " words of 7", x.freeWords(0), 11);
            C.due("mount(), " + n + " words of 7", x.mount(), n < 7 ? 1 : 2);
            x.arm(100);
            C.due("read(2, 2), " + n + " words of 7", x.read(2, 2), n < 7 ? 0 : 12);
        }
        NodeLogFlash x = States.off();
        C.due("spoil of the data", x.spoil(6), true);
        C.due("deadWords(0)", x.deadWords(0), 7);
        C.due("mount()", x.mount(), 6);
        C.due("read(2, 0)", x.read(2, 0), 0);
    }

    private static void noneOrAllWordsAreDead() {
        NodeLogFlash x = Check.fiveFullBlocks();
        C.due("deadWords(1), none", x.deadWords(1), 0);
        x.remove(1, 2);
        C.due("deadWords(1), all", x.deadWords(1), 23);
        C.due("freeWords(1)", x.freeWords(1), 0);
    }

    /** A collection from block 0 to block 1 is cut before it clears: the copies lie behind. */
    private static void copyAtAHigherPlace() {
        NodeLogFlash x = withFile();
        x.write(2, 0, 1, 5);
        x.write(2, 0, 1, 6);
        x.arm(5 + 5);
        C.due("collect()", x.collect(), NodeLogFlash.CUT);
        C.due("mount()", x.mount(), 2);
        C.due("the link stays", x.peek(1), 0x5D810005);
        C.due("the data stays", x.peek(11), 0x5D820005);
        C.due("the link's copy is marked", x.peek(25), 0x5D010005);
        C.due("the data's copy is marked", x.peek(30), 0x5D020005);
    }

    /** The same from block 1 to block 0, which was collected before: the copies lie in front. */
    private static void copyAtALowerPlace() {
        NodeLogFlash x = withFile();
        x.write(2, 0, 6, 1);
        x.write(2, 6, 4, 2);
        x.make(1, 2, false);
        x.write(3, 0, 4, 30);
        x.write(3, 4, 5, 40);
        x.write(3, 4, 5, 50);
        x.remove(1, 1);
        C.due("collect()", x.collect(), 23);
        x.write(3, 10, 6, 60);
        C.due("freeWords(2)", x.freeWords(2), 4);
        C.due("deadWords(1)", x.deadWords(1), 9);
        x.arm(5 + 8);
        C.due("collect()", x.collect(), NodeLogFlash.CUT);
        C.due("mount()", x.mount(), 4);
        C.due("the link is marked", x.peek(25), 0x5D010005);
        C.due("the data is marked", x.peek(30), 0x5D020008);
        C.due("the link's copy stays", x.peek(1), 0x5D810005);
        C.due("the data's copy stays", x.peek(6), 0x5D820008);
        C.due("read(3, 0)", x.read(3, 0), 30);
    }

    private static void equalVersions() {
        copyAtAHigherPlace();
        copyAtALowerPlace();
    }

    /** A move of which the new link was written and the older one not yet marked. */
    private static void newerLinkWithTheSameInode() {
        NodeLogFlash x = States.forest();
        x.arm(5);
        C.due("move(1, 1, 1, 9)", x.move(1, 1, 1, 9), NodeLogFlash.CUT);
        C.due("both are valid", x.deadWords(0) + x.deadWords(1), 0);
        C.due("mount()", x.mount(), 7);
        C.due("entry(1, 9)", x.entry(1, 9), 2);
        C.due("entry(1, 1)", x.entry(1, 1), NodeLogFlash.MISSING);
        C.due("the older link is marked", x.peek(1), 0x5D010005);
    }

    /** A file moved onto another: its older link is spoilt, so only parent and name tell them apart. */
    private static void newerLinkWithTheSameParentAndName() {
        NodeLogFlash x = Check.mounted();
        x.make(1, 1, false);
        x.make(1, 2, false);
        x.arm(5);
        C.due("move(1, 2, 1, 1)", x.move(1, 2, 1, 1), NodeLogFlash.CUT);
        C.due("spoil(6)", x.spoil(6), true);
        C.due("mount()", x.mount(), 1);
        C.due("entry(1, 1)", x.entry(1, 1), 3);
        C.due("kindOf(2)", x.kindOf(2), 0);
        C.due("the replaced link is marked", x.peek(1), 0x5D010005);
    }

    /** The same name in another parent, and another name in the same parent, take nothing away. */
    private static void linksThatDifferInParentOrName() {
        NodeLogFlash x = States.forest();
        C.due("make(3, 3): name 3 is in the root too", x.make(3, 3, false), 8);
        C.due("make(3, 4): 3 has a name 3 too", x.make(3, 4, false), 9);
        C.due("mount()", x.mount(), 9);
        C.due("size(1)", x.size(1), 3);
        C.due("size(3)", x.size(3), 4);
    }

    private static void newerLinks() {
        newerLinkWithTheSameInode();
        newerLinkWithTheSameParentAndName();
        linksThatDifferInParentOrName();
    }

    /** Eleven directories, each in the one before it; when one is lost, all those in it are. */
    private static void linksWhoseParentHolds() {
        for (int lost = 2; lost <= 12; lost++) {
            NodeLogFlash x = Check.mounted();
            for (int parent = 1; parent <= 11; parent++) {
                x.make(parent, 1, true);
            }
            x.arm(0);
            C.due("remove(11, 1)", x.remove(11, 1), NodeLogFlash.CUT);
            int index = lost - 2;
            C.due("spoil of " + lost, x.spoil(24 * (index / 4) + 1 + 5 * (index % 4)), true);
            C.due("mount() without " + lost, x.mount(), index);
            C.due("the one above it", x.kindOf(lost - 1), 2);
            C.due("the lost one", x.kindOf(lost), 0);
            C.due("the last one", x.kindOf(12), 0);
        }
    }

    /** Of the six cells of older data all but one are covered, for each of the six; then that one too. */
    private static void dataWithOneCellLeft() {
        for (int left = 0; left < 6; left++) {
            NodeLogFlash x = withFile();
            x.write(2, 4, 6, 100);
            if (left > 0) {
                x.write(2, 4, left, 200);
            }
            if (left < 5) {
                x.write(2, 4 + left + 1, 5 - left, 300);
            }
            C.due("one cell is left, deadWords(0)", x.deadWords(0), 0);
            C.due("cell " + left, x.read(2, 4 + left), 100 + left);
            x.write(2, 4 + left, 1, 400);
            C.due("no cell is left, deadWords(0)", x.deadWords(0), 10);
            C.due("the data is marked", x.peek(6), 0x5D02000A);
            C.due("cell " + left, x.read(2, 4 + left), 400);
        }
    }

    private static void dataOfAnotherFile() {
        NodeLogFlash x = withFile();
        x.make(1, 2, false);
        x.write(2, 0, 6, 100);
        x.write(3, 0, 6, 200);
        C.due("the same cells of another file", x.deadWords(0), 0);
        C.due("read(2, 5)", x.read(2, 5), 105);
        C.due("read(3, 5)", x.read(3, 5), 205);
        x.remove(1, 1);
        C.due("no link to its file", x.deadWords(0), 15);
        C.due("read(3, 5)", x.read(3, 5), 205);
    }

    /** After a collection the data is the first node of all; it counts, and when it is covered it does not. */
    private static void dataAtTheLowestPlace() {
        NodeLogFlash x = withFile();
        x.write(2, 0, 6, 1);
        x.write(2, 6, 4, 2);
        x.make(1, 2, false);
        x.write(3, 0, 4, 30);
        x.move(1, 2, 1, 3);
        x.write(3, 4, 1, 40);
        C.due("freeWords(1)", x.freeWords(1), 0);
        x.remove(1, 1);
        C.due("collect() of block 0", x.collect(), 23);
        C.due("collect() of block 1", x.collect(), 5);
        C.due("the data is first", x.peek(1), 0x5D820008);
        C.due("mount()", x.mount(), 3);
        C.due("read(3, 3)", x.read(3, 3), 33);
        x.write(3, 0, 4, 50);
        C.due("now it is marked", x.peek(1), 0x5D020008);
    }

    private static void seenData() {
        dataWithOneCellLeft();
        dataOfAnotherFile();
        dataAtTheLowestPlace();
    }

    /** When the newest data goes bad before it was swept around, the older data is there again. */
    private static void newestValidData() {
        NodeLogFlash x = withFile();
        for (int cell = 0; cell < 16; cell++) {
            C.due("a cell without data", x.read(2, cell), 0);
        }
        x.write(2, 0, 2, 10);
        x.write(2, 1, 2, 20);
        C.due("read(2, 0)", x.read(2, 0), 10);
        C.due("read(2, 1)", x.read(2, 1), 20);
        C.due("read(2, 2)", x.read(2, 2), 21);
        C.due("read(2, 3)", x.read(2, 3), 0);
        Check.cutPower(x);
        C.due("spoil(12)", x.spoil(12), true);
        x.mount();
        C.due("read(2, 1), the older cell", x.read(2, 1), 11);
        C.due("read(2, 2), none", x.read(2, 2), 0);
    }

    private static void sizesOfFiles() {
        NodeLogFlash x = withFile();
        C.due("no data", x.size(2), 0);
        x.write(2, 15, 1, 0);
        C.due("the last cell alone", x.size(2), 16);
        NodeLogFlash y = withFile();
        y.write(2, 0, 1, 0);
        C.due("the first cell alone", y.size(2), 1);
        y.write(2, 5, 3, 0);
        y.write(2, 2, 1, 0);
        C.due("not the newest but the greatest", y.size(2), 8);
        Check.cutPower(y);
        C.due("spoil(11)", y.spoil(11), true);
        y.mount();
        C.due("the greatest of what is valid", y.size(2), 3);
        Check.cutPower(y);
        y.spoil(6);
        y.spoil(18);
        C.due("mount()", y.mount(), 1);
        C.due("no valid data", y.size(2), 0);
    }

    /** A removed file with three nodes of data in two blocks: the marks come one by one, by place. */
    private static void marksInTheOrderOfPlaces() {
        int[] places = {6, 16, 25};
        for (int n = 1; n <= 4; n++) {
            NodeLogFlash x = withFile();
            x.write(2, 0, 6, 1);
            x.write(2, 6, 4, 2);
            x.write(2, 10, 6, 3);
            int before = x.operations();
            x.arm(n);
            C.due("remove with " + n, x.remove(1, 1), n < 4 ? NodeLogFlash.CUT : 2);
            for (int i = 0; i < 3; i++) {
                C.due("mark " + i + " with " + n, (x.peek(places[i]) & 0x00800000) == 0, i < n - 1);
            }
            C.due("operations()", x.operations(), before + n);
        }
    }

    /** A file is replaced whose data lies before its link: data and links are marked as they lie. */
    private static void dataBeforeLinks() {
        int[] places = {6, 16, 25};
        for (int n = 5; n <= 8; n++) {
            NodeLogFlash x = withFile();
            x.write(2, 0, 6, 1);
            x.move(1, 1, 1, 2);
            x.make(1, 3, false);
            C.due("the link of file 3", x.peek(25), 0x5D810005);
            x.arm(n);
            C.due("move with " + n, x.move(1, 3, 1, 2), n < 8 ? NodeLogFlash.CUT : 3);
            for (int i = 0; i < 3; i++) {
                C.due("mark " + i + " with " + n, (x.peek(places[i]) & 0x00800000) == 0, i < n - 5);
            }
            C.due("mount()", x.mount(), 1);
        }
    }

    /**
     * The newest link of file 4, in the lost directory 3, lies before its older one. Both are found before
     * the first is marked; the older one must not hold again in between.
     */
    private static void allAreFoundBeforeTheFirstMark() {
        NodeLogFlash x = withFile();
        x.write(2, 0, 6, 1);
        x.write(2, 6, 4, 2);
        x.make(1, 2, true);
        x.make(1, 3, false);
        x.write(4, 0, 3, 40);
        x.write(4, 3, 2, 50);
        C.due("freeWords(1)", x.freeWords(1), 0);
        x.remove(1, 1);
        C.due("collect()", x.collect(), 23);
        x.arm(5);
        C.due("move(1, 3, 3, 1)", x.move(1, 3, 3, 1), NodeLogFlash.CUT);
        C.due("the newest link", x.peek(1), 0x5D810005);
        C.due("spoil(25)", x.spoil(25), true);
        C.due("mount()", x.mount(), 0);
        C.due("the newest link", x.peek(1), 0x5D010005);
        C.due("the older one", x.peek(30), 0x5D010005);
        C.due("entry(1, 3)", x.entry(1, 3), NodeLogFlash.MISSING);
    }

    private static void sweeps() {
        marksInTheOrderOfPlaces();
        dataBeforeLinks();
        allAreFoundBeforeTheFirstMark();
        NodeLogFlash x = States.forest();
        int before = x.operations();
        C.due("nothing to mark, mount()", x.mount(), 7);
        C.due("operations()", x.operations(), before);
    }

    public static void main(String[] args) {
        C.sentence("behind the last one all words are -1: these are the block's FREE words",
            EdgesOfNodesTest::freeWordsBehindTheLastNode);
        C.sentence("The node is MARKED when the bit 0x00800000 of it was cleared", EdgesOfNodesTest::marks);
        C.sentence("its VERSION, from 1 on", EdgesOfNodesTest::versionsFromOneOn);
        C.sentence("2 is 65536 * parent + name, 3 is 65536 * (1 for a directory, 0 for a file) + inode",
            EdgesOfNodesTest::greatestNumbersOfALink);
        C.sentence("DATA of n cells (1 .. 6), s = n + 4", EdgesOfNodesTest::lengthsOfData);
        C.sentence("the CHECK: 1 + (c & 0x3FFFFFFF), where c is 7 at first and becomes 31 * c + w, wrapping",
            EdgesOfNodesTest::leastAndGreatestCheck);
        C.sentence("A node is VALID when it is not marked and its last word is its CHECK.",
            EdgesOfNodesTest::validWithItsLastWord);
        C.sentence("The words of all nodes that are not valid are the block's DEAD words.",
            EdgesOfNodesTest::noneOrAllWordsAreDead);
        C.sentence("with equal versions the one at the lower place", EdgesOfNodesTest::equalVersions);
        C.sentence("A valid link HOLDS when no newer valid link has the same inode, nor the same parent and name",
            EdgesOfNodesTest::newerLinks);
        C.sentence("its parent is 1 (the root) or the inode of a link to a directory that holds",
            EdgesOfNodesTest::linksWhoseParentHolds);
        C.sentence("it has a cell which no newer valid data of that inode has", EdgesOfNodesTest::seenData);
        C.sentence("a cell of a file is that of the newest valid data with it, or 0 when there is none",
            EdgesOfNodesTest::newestValidData);
        C.sentence("the size of a file is the greatest offset + n of its valid data, 0 when there is none",
            EdgesOfNodesTest::sizesOfFiles);
        C.sentence("To SWEEP is to find all valid nodes that are neither links that hold nor data that is seen, "
            + "and then to mark them, in the order of places, each by one operation", EdgesOfNodesTest::sweeps);
        C.end();
    }
}
