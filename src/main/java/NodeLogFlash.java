import java.util.Arrays;

/**
 * A small tree of files and directories that is kept as a log of nodes on a flash memory
 * whose bits can only be cleared one word at a time and set again one block at a time.
 */
public final class NodeLogFlash {
    public static final int CLEAN = 6533;
    public static final int OFF = -1;
    public static final int BAD = -2;
    public static final int MISSING = -3;
    public static final int EXISTS = -4;
    public static final int FULL = -5;
    public static final int NOT_EMPTY = -6;
    public static final int LOOP = -7;
    public static final int CUT = -8;
    public static final long NO_CELL = 1099511627776L;

    /** No inode, no block and no place. */
    private static final int NONE = -1;

    private static final int BLOCKS = 6;
    private static final int BLOCK_WORDS = 24;
    private static final int HALF_WORDS = 12;
    private static final int WORDS = BLOCKS * BLOCK_WORDS;
    private static final int ERASED = -1;

    private static final int LINK = 1;
    private static final int DATA = 2;
    private static final int HEAD_BASE = 0x5D800000;
    private static final int NOT_MARKED = 0x00800000;
    private static final int KIND_MASK = 0x7F;
    private static final int UPPER = 65536;
    private static final int LOWER_MASK = 0xFFFF;
    private static final int FIRST_CELL = 3;
    private static final int WORDS_AROUND_CELLS = 4;
    private static final int LINK_WORDS = 5;
    private static final int LEAST_WORDS = 5;
    private static final int MOST_WORDS = 10;
    private static final int NODES_IN_BLOCK = (BLOCK_WORDS - 1) / LEAST_WORDS;
    private static final int MOST_NODES = BLOCKS * NODES_IN_BLOCK;
    private static final int SUM_START = 7;
    private static final int SUM_FACTOR = 31;
    private static final int SUM_MASK = 0x3FFFFFFF;

    private static final int ROOT = 1;
    private static final int INODES = 12;
    private static final int NAMES = 9;
    private static final int CELLS = 16;
    private static final int MOST_WRITTEN = 6;

    private final Flash flash;
    private final NodeLog log;
    private final Tree tree;
    private final Room room;
    private final Draft draft;

    public NodeLogFlash() {
        flash = new Flash();
        log = new NodeLog(flash);
        tree = new Tree(log);
        room = new Room(log);
        draft = new Draft();
    }

    public int mount() {
        flash.turnOn();
        for (int b = 0; b < BLOCKS; b++) {
            if (!flash.isInUse(b) && !flash.clearBlock(b)) {
                return CUT;
            }
        }
        if (!sweep()) {
            return CUT;
        }
        log.refresh();
        return log.countValid();
    }

    public boolean arm(int n) {
        if (n < 0) {
            return false;
        }
        flash.failAfter(n);
        return true;
    }

    public boolean spoil(int p) {
        if (flash.isOn()) {
            return false;
        }
        log.refresh();
        int spoilt = log.placeToSpoil(p);
        if (spoilt == NONE) {
            return false;
        }
        flash.zero(spoilt);
        return true;
    }

    public int make(int parent, int name, boolean directory) {
        if (!flash.isOn()) {
            return OFF;
        }
        if (!isInode(parent) || !isName(name)) {
            return BAD;
        }
        tree.refresh();
        if (!tree.isDirectory(parent)) {
            return MISSING;
        }
        if (tree.linkAt(parent, name) != null) {
            return EXISTS;
        }
        int inode = tree.leastUnusedInode();
        if (inode == NONE) {
            return FULL;
        }
        draftLink(parent, name, directory, inode);
        int outcome = append();
        return outcome < 0 ? outcome : inode;
    }

    public int move(int parent, int name, int toParent, int toName) {
        if (!flash.isOn()) {
            return OFF;
        }
        if (!isInode(parent) || !isName(name) || !isInode(toParent) || !isName(toName)) {
            return BAD;
        }
        tree.refresh();
        Node link = tree.linkAt(parent, name);
        if (link == null || !tree.isDirectory(toParent)) {
            return MISSING;
        }
        // The log's nodes are used again when it is refreshed, so the inode is kept apart.
        int inode = link.inode;
        if (link.directory && tree.liesIn(toParent, inode)) {
            return LOOP;
        }
        if (parent == toParent && name == toName) {
            return inode;
        }
        Node there = tree.linkAt(toParent, toName);
        if (there != null && (link.directory || there.directory)) {
            return EXISTS;
        }
        draftLink(toParent, toName, link.directory, inode);
        int outcome = append();
        return outcome < 0 ? outcome : inode;
    }

    public int remove(int parent, int name) {
        if (!flash.isOn()) {
            return OFF;
        }
        if (!isInode(parent) || !isName(name)) {
            return BAD;
        }
        tree.refresh();
        Node link = tree.linkAt(parent, name);
        if (link == null) {
            return MISSING;
        }
        int inode = link.inode;
        if (tree.countEntries(inode) != 0) {
            return NOT_EMPTY;
        }
        return flash.mark(link.place) && sweep() ? inode : CUT;
    }

    public int write(int inode, int offset, int n, int value) {
        if (!flash.isOn()) {
            return OFF;
        }
        // offset is held against 16 - n, because offset + n may wrap.
        if (!isInode(inode) || n < 1 || n > MOST_WRITTEN || offset < 0 || offset > CELLS - n) {
            return BAD;
        }
        tree.refresh();
        if (!tree.isFile(inode)) {
            return MISSING;
        }
        draftData(inode, offset, n, value);
        return append();
    }

    public long read(int inode, int offset) {
        if (!flash.isOn() || offset < 0 || offset >= CELLS) {
            return NO_CELL;
        }
        tree.refresh();
        if (!tree.isFile(inode)) {
            return NO_CELL;
        }
        Node data = tree.dataAt(inode, offset);
        return data == null ? 0 : flash.wordAt(data.place + FIRST_CELL + offset - data.offset);
    }

    public int size(int inode) {
        if (!flash.isOn()) {
            return OFF;
        }
        if (!isInode(inode)) {
            return BAD;
        }
        tree.refresh();
        if (tree.isDirectory(inode)) {
            return tree.countEntries(inode);
        }
        return tree.isFile(inode) ? tree.lengthOf(inode) : MISSING;
    }

    public int entry(int parent, int name) {
        if (!flash.isOn()) {
            return OFF;
        }
        if (!isInode(parent) || !isName(name)) {
            return BAD;
        }
        tree.refresh();
        Node link = tree.linkAt(parent, name);
        return link == null ? MISSING : link.inode;
    }

    public int kindOf(int inode) {
        if (!flash.isOn()) {
            return OFF;
        }
        tree.refresh();
        if (tree.isDirectory(inode)) {
            return 2;
        }
        return tree.isFile(inode) ? 1 : 0;
    }

    public int collect() {
        if (!flash.isOn()) {
            return OFF;
        }
        log.refresh();
        int block = blockToCollect();
        if (block == NONE) {
            return 0;
        }
        int gained = log.deadIn(block);
        return copyOut(block) && flash.clearBlock(block) ? gained : CUT;
    }

    public int freeWords(int b) {
        log.refresh();
        return log.isInUse(b) ? log.freeIn(b) : -1;
    }

    public int deadWords(int b) {
        log.refresh();
        return log.isInUse(b) ? log.deadIn(b) : -1;
    }

    public int peek(int p) {
        return flash.wordAt(p);
    }

    public int operations() {
        return flash.operationsDone();
    }

    private static boolean isInode(int inode) {
        return inode >= 1 && inode <= INODES;
    }

    private static boolean isName(int name) {
        return name >= 1 && name <= NAMES;
    }

    private static boolean isBlock(int block) {
        return block >= 0 && block < BLOCKS;
    }

    private void draftLink(int parent, int name, boolean directory, int inode) {
        draft.begin(LINK, LINK_WORDS, log.nextVersion());
        draft.put(UPPER * parent + name);
        draft.put((directory ? UPPER : 0) + inode);
        draft.seal();
    }

    private void draftData(int inode, int offset, int n, int value) {
        draft.begin(DATA, n + WORDS_AROUND_CELLS, log.nextVersion());
        draft.put(UPPER * inode + offset);
        for (int i = 0; i < n; i++) {
            draft.put(value + i);
        }
        draft.seal();
    }

    /** Appends the drafted node. Answers its version, or FULL or CUT. */
    private int append() {
        room.measure(NONE);
        if (room.isLastEmpty(room.blockFor(draft.length))) {
            return FULL;
        }
        int place = room.take(draft.length);
        if (place == NONE) {
            return FULL;
        }
        for (int i = 0; i < draft.length; i++) {
            if (!flash.program(place + i, draft.words[i])) {
                return CUT;
            }
        }
        return sweep() ? draft.version : CUT;
    }

    /** Answers false when the power failed. */
    private boolean sweep() {
        tree.refresh();
        // The tree is not refreshed between the marks: what to mark is settled before the first.
        for (int i = 0; i < log.count; i++) {
            Node node = log.nodes[i];
            if (node.valid && !node.counts && !flash.mark(node.place)) {
                return false;
            }
        }
        return true;
    }

    private int blockToCollect() {
        int best = NONE;
        int most = 0;
        for (int b = 0; b < BLOCKS; b++) {
            if (log.deadIn(b) > most && canServe(b)) {
                best = b;
                most = log.deadIn(b);
            }
        }
        return best;
    }

    private boolean canServe(int block) {
        room.measure(block);
        for (int i = 0; i < log.count; i++) {
            Node node = log.nodes[i];
            if (node.valid && node.block() == block && room.take(node.length) == NONE) {
                return false;
            }
        }
        return true;
    }

    /** Takes the same places as canServe did. Answers false when the power failed. */
    private boolean copyOut(int block) {
        room.measure(block);
        for (int i = 0; i < log.count; i++) {
            Node node = log.nodes[i];
            if (node.valid && node.block() == block && !copyNode(node, room.take(node.length))) {
                return false;
            }
        }
        return true;
    }

    private boolean copyNode(Node node, int place) {
        for (int k = 0; k < node.length; k++) {
            if (!flash.program(place + k, flash.wordAt(node.place + k))) {
                return false;
            }
        }
        return true;
    }

    /** The flash and its power: all that an object knows; everything else is read from it. */
    private static final class Flash {
        private final int[] words = new int[WORDS];
        private boolean on;
        private boolean armed;
        private int left;
        private int done;
        private int changes;

        Flash() {
            Arrays.fill(words, ERASED);
        }

        boolean isOn() {
            return on;
        }

        void turnOn() {
            on = true;
        }

        void failAfter(int n) {
            armed = true;
            left = n;
        }

        int operationsDone() {
            return done;
        }

        /** Grows whenever a word may have changed, so that readers know when to read again. */
        int changes() {
            return changes;
        }

        int wordAt(int place) {
            return place >= 0 && place < WORDS ? words[place] : 0;
        }

        boolean isInUse(int block) {
            return wordAt(block * BLOCK_WORDS) == CLEAN;
        }

        /** Answers false when the power failed instead, as all operations here do. */
        boolean program(int place, int word) {
            if (place < 0 || place >= WORDS || !startOperation()) {
                return false;
            }
            words[place] &= word;
            return true;
        }

        boolean mark(int place) {
            return program(place, wordAt(place) & ~NOT_MARKED);
        }

        boolean clearBlock(int block) {
            int start = block * BLOCK_WORDS;
            return eraseHalf(start) && eraseHalf(start + HALF_WORDS) && program(start, CLEAN);
        }

        private boolean eraseHalf(int start) {
            if (start < 0 || start > WORDS - HALF_WORDS || !startOperation()) {
                return false;
            }
            Arrays.fill(words, start, start + HALF_WORDS, ERASED);
            return true;
        }

        /** What goes bad by itself is no operation: it is not counted and needs no power. */
        void zero(int place) {
            if (place >= 0 && place < WORDS) {
                words[place] = 0;
                changes++;
            }
        }

        private boolean startOperation() {
            if (armed && left == 0) {
                on = false;
                armed = false;
                return false;
            }
            if (armed) {
                left--;
            }
            done++;
            changes++;
            return true;
        }
    }

    /** A node as it was last read from the flash. */
    private static final class Node {
        private int place;
        private int length;
        private int version;
        private int inode;
        private int parent;
        private int name;
        private int offset;
        private int cells;
        private boolean link;
        private boolean directory;
        private boolean valid;
        /** Whether it is a link that holds or data that is seen; the tree finds that out. */
        private boolean counts;

        /** What the words of a node that is not valid say is never used. */
        void load(Flash flash, int at, int words) {
            int second = flash.wordAt(at + 2);
            int third = flash.wordAt(at + 3);
            place = at;
            length = words;
            version = flash.wordAt(at + 1);
            link = (flash.wordAt(at) / UPPER & KIND_MASK) == LINK;
            inode = link ? third & LOWER_MASK : second / UPPER;
            directory = link && third / UPPER == 1;
            parent = link ? second / UPPER : 0;
            name = link ? second & LOWER_MASK : 0;
            offset = link ? 0 : second & LOWER_MASK;
            cells = link ? 0 : words - WORDS_AROUND_CELLS;
            counts = false;
        }

        int block() {
            return place / BLOCK_WORDS;
        }

        boolean isNewerThan(Node other) {
            return version > other.version || version == other.version && place < other.place;
        }
    }

    /** The nodes that lie on the flash, in the order of places, and what each block has. */
    private static final class NodeLog {
        private final Flash flash;
        private final Node[] nodes = new Node[MOST_NODES];
        private final boolean[] inUse = new boolean[BLOCKS];
        private final int[] free = new int[BLOCKS];
        private final int[] dead = new int[BLOCKS];
        private int count;
        private int seenChanges = -1;

        NodeLog(Flash flash) {
            this.flash = flash;
            for (int i = 0; i < MOST_NODES; i++) {
                nodes[i] = new Node();
            }
        }

        void refresh() {
            if (seenChanges == flash.changes()) {
                return;
            }
            seenChanges = flash.changes();
            count = 0;
            for (int b = 0; b < BLOCKS; b++) {
                inUse[b] = flash.isInUse(b);
                free[b] = 0;
                dead[b] = 0;
                if (inUse[b]) {
                    readNodes(b);
                }
            }
        }

        boolean isInUse(int block) {
            return isBlock(block) && inUse[block];
        }

        int freeIn(int block) {
            return isBlock(block) ? free[block] : 0;
        }

        int deadIn(int block) {
            return isBlock(block) ? dead[block] : 0;
        }

        int countValid() {
            int found = 0;
            for (int i = 0; i < count; i++) {
                if (nodes[i].valid) {
                    found++;
                }
            }
            return found;
        }

        int nextVersion() {
            int greatest = 0;
            for (int i = 0; i < count; i++) {
                if (nodes[i].valid && nodes[i].version > greatest) {
                    greatest = nodes[i].version;
                }
            }
            return greatest + 1;
        }

        /** The place of the word that goes bad when spoil names this place, or NONE. */
        int placeToSpoil(int place) {
            for (int b = 0; b < BLOCKS; b++) {
                if (inUse[b] && place == b * BLOCK_WORDS) {
                    return place;
                }
            }
            for (int i = 0; i < count; i++) {
                if (nodes[i].place == place) {
                    return place + nodes[i].length - 1;
                }
            }
            return NONE;
        }

        private void readNodes(int block) {
            int end = (block + 1) * BLOCK_WORDS;
            int at = block * BLOCK_WORDS + 1;
            for (int k = 0; k < NODES_IN_BLOCK && count < MOST_NODES; k++) {
                int length = lengthAt(at, end);
                if (length == 0) {
                    break;
                }
                Node node = nodes[count];
                count++;
                node.load(flash, at, length);
                node.valid = isValid(at, length);
                if (!node.valid) {
                    dead[block] += length;
                }
                at += length;
            }
            free[block] = end - at;
        }

        /** The length of the node whose HEAD is at that place, or 0 when no node begins there. */
        private int lengthAt(int at, int end) {
            int head = flash.wordAt(at);
            int length = head & LOWER_MASK;
            boolean fits = length >= LEAST_WORDS && length <= MOST_WORDS && at + length <= end;
            return at < end && head != ERASED && fits ? length : 0;
        }

        private boolean isValid(int at, int length) {
            if ((flash.wordAt(at) & NOT_MARKED) == 0) {
                return false;
            }
            int sum = SUM_START;
            for (int k = 0; k < length - 1; k++) {
                sum = SUM_FACTOR * sum + flash.wordAt(at + k);
            }
            return flash.wordAt(at + length - 1) == 1 + (sum & SUM_MASK);
        }
    }

    /** What counts: the links that hold and the data that is seen. */
    private static final class Tree {
        private final NodeLog log;
        private final Node[] newestOfInode = new Node[INODES + 1];
        private final Node[] newestOfName = new Node[(INODES + 1) * (NAMES + 1)];
        private final Node[] newestOfCell = new Node[(INODES + 1) * CELLS];
        private int seenChanges = -1;

        Tree(NodeLog log) {
            this.log = log;
        }

        void refresh() {
            log.refresh();
            if (seenChanges == log.seenChanges) {
                return;
            }
            seenChanges = log.seenChanges;
            forget(newestOfInode);
            forget(newestOfName);
            forget(newestOfCell);
            for (int i = 0; i < log.count; i++) {
                if (log.nodes[i].valid) {
                    keepIfNewest(log.nodes[i]);
                }
            }
            // A link may lie before that of its parent: each round reaches one level deeper at least.
            boolean grown = true;
            for (int round = 0; round < INODES && grown; round++) {
                grown = holdMoreLinks();
            }
            findSeenData();
        }

        /** The link with that inode that holds, or null. */
        Node linkTo(int inode) {
            Node link = inode < 0 || inode > INODES ? null : newestOfInode[inode];
            return link != null && link.counts ? link : null;
        }

        /** The link with that parent and name that holds, or null. */
        Node linkAt(int parent, int name) {
            Node link = newestIn(newestOfName, nameSlot(parent, name));
            return link != null && link.counts ? link : null;
        }

        boolean isDirectory(int inode) {
            Node link = linkTo(inode);
            return inode == ROOT || link != null && link.directory;
        }

        boolean isFile(int inode) {
            Node link = linkTo(inode);
            return link != null && !link.directory;
        }

        int leastUnusedInode() {
            for (int inode = ROOT + 1; inode <= INODES; inode++) {
                if (linkTo(inode) == null) {
                    return inode;
                }
            }
            return NONE;
        }

        int countEntries(int parent) {
            int found = 0;
            for (int name = 1; name <= NAMES; name++) {
                if (linkAt(parent, name) != null) {
                    found++;
                }
            }
            return found;
        }

        /** Whether the first directory is the second or lies in it at any depth. */
        boolean liesIn(int inner, int outer) {
            int at = inner;
            for (int depth = 0; depth < INODES && at != outer; depth++) {
                Node link = linkTo(at);
                if (link == null) {
                    return false;
                }
                at = link.parent;
            }
            return at == outer;
        }

        /** The newest data that has that cell, or null. */
        Node dataAt(int inode, int cell) {
            return newestIn(newestOfCell, cellSlot(inode, cell));
        }

        int lengthOf(int inode) {
            // The greatest offset + n lies right behind the last cell that any data has.
            for (int length = CELLS; length > 0; length--) {
                if (dataAt(inode, length - 1) != null) {
                    return length;
                }
            }
            return 0;
        }

        private static int nameSlot(int parent, int name) {
            return parent * (NAMES + 1) + name;
        }

        private static int cellSlot(int inode, int cell) {
            return inode * CELLS + cell;
        }

        private static Node newestIn(Node[] newest, int slot) {
            return slot >= 0 && slot < newest.length ? newest[slot] : null;
        }

        private static void forget(Node[] newest) {
            for (int i = 0; i < newest.length; i++) {
                newest[i] = null;
            }
        }

        private void keepIfNewest(Node node) {
            if (node.link) {
                keepNewer(newestOfInode, node.inode, node);
                keepNewer(newestOfName, nameSlot(node.parent, node.name), node);
            }
            for (int k = 0; k < node.cells; k++) {
                keepNewer(newestOfCell, cellSlot(node.inode, node.offset + k), node);
            }
        }

        private static void keepNewer(Node[] newest, int slot, Node node) {
            if (slot < 0 || slot >= newest.length) {
                return;
            }
            if (newest[slot] == null || node.isNewerThan(newest[slot])) {
                newest[slot] = node;
            }
        }

        private boolean holdMoreLinks() {
            boolean grown = false;
            for (int i = 0; i < log.count; i++) {
                Node node = log.nodes[i];
                if (!node.counts && isNewestLink(node) && isDirectory(node.parent)) {
                    node.counts = true;
                    grown = true;
                }
            }
            return grown;
        }

        private boolean isNewestLink(Node node) {
            return node.valid && node.link
                && newestIn(newestOfInode, node.inode) == node
                && newestIn(newestOfName, nameSlot(node.parent, node.name)) == node;
        }

        private void findSeenData() {
            for (int i = 0; i < log.count; i++) {
                Node node = log.nodes[i];
                if (node.valid && !node.link) {
                    node.counts = isFile(node.inode) && hasNewestCell(node);
                }
            }
        }

        private boolean hasNewestCell(Node data) {
            for (int k = 0; k < data.cells; k++) {
                if (dataAt(data.inode, data.offset + k) == data) {
                    return true;
                }
            }
            return false;
        }
    }

    /** Where nodes can be placed; what was taken is gone before it is programmed. */
    private static final class Room {
        private final NodeLog log;
        private final boolean[] open = new boolean[BLOCKS];
        private final boolean[] empty = new boolean[BLOCKS];
        private final int[] free = new int[BLOCKS];

        Room(NodeLog log) {
            this.log = log;
        }

        /** Begins with the room that there is, without that of one block (or of NONE). */
        void measure(int leftOut) {
            for (int b = 0; b < BLOCKS; b++) {
                open[b] = log.isInUse(b) && b != leftOut;
                free[b] = log.freeIn(b);
                empty[b] = free[b] == BLOCK_WORDS - 1;
            }
        }

        int blockFor(int length) {
            int firstEmpty = NONE;
            for (int b = 0; b < BLOCKS; b++) {
                if (open[b] && !empty[b] && free[b] >= length) {
                    return b;
                }
                if (open[b] && empty[b] && firstEmpty == NONE) {
                    firstEmpty = b;
                }
            }
            return firstEmpty;
        }

        /** Whether the block has no node and no other one is like it. */
        boolean isLastEmpty(int block) {
            int found = 0;
            for (int b = 0; b < BLOCKS; b++) {
                if (open[b] && empty[b]) {
                    found++;
                }
            }
            return isBlock(block) && empty[block] && found == 1;
        }

        /** Answers the place of a node of that length, or NONE. */
        int take(int length) {
            int block = blockFor(length);
            if (block == NONE) {
                return NONE;
            }
            int place = (block + 1) * BLOCK_WORDS - free[block];
            free[block] -= length;
            empty[block] = false;
            return place;
        }
    }

    /** A node that is put together before it is known whether it has a place. */
    private static final class Draft {
        private final int[] words = new int[MOST_WORDS];
        private int length;
        private int version;
        private int filled;
        private int sum;

        void begin(int kind, int wholeLength, int ownVersion) {
            length = Math.min(wholeLength, MOST_WORDS);
            version = ownVersion;
            filled = 0;
            sum = SUM_START;
            put(HEAD_BASE + UPPER * kind + length);
            put(version);
        }

        void put(int word) {
            if (filled < length) {
                words[filled] = word;
                filled++;
                sum = SUM_FACTOR * sum + word;
            }
        }

        void seal() {
            put(1 + (sum & SUM_MASK));
        }
    }
}
