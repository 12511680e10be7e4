import java.util.ArrayList;
import java.util.Arrays;
import java.util.List;

/**
 * The document's sentences as directly as Java says them, slow and without anything remembered
 * but the flash; the program is held against it in ModelTest.
 */
final class PlainModel {
    private static final class PowerFailed extends RuntimeException {
        private static final long serialVersionUID = 1L;
    }

    record Node(int place, int s, int kind, boolean valid, int version, int w2, int w3) {
        boolean link() {
            return valid && kind == 1;
        }

        boolean data() {
            return valid && kind == 2;
        }

        int parent() {
            return w2 >>> 16;
        }

        int name() {
            return w2 & 0xFFFF;
        }

        boolean directory() {
            return w3 >>> 16 == 1;
        }

        int inode() {
            return kind == 1 ? w3 & 0xFFFF : w2 >>> 16;
        }

        int offset() {
            return w2 & 0xFFFF;
        }

        boolean hasCell(int cell) {
            return cell >= offset() && cell < offset() + s - 4;
        }

        boolean newerThan(Node other) {
            return version != other.version ? version > other.version : place < other.place;
        }
    }

    final int[] words = new int[144];
    boolean on = false;
    /** How often a collection took another block than one with more dead words. */
    int passedOver = 0;
    private long armed = Long.MAX_VALUE;
    private int operations = 0;

    PlainModel() {
        Arrays.fill(words, -1);
    }

    // the flash

    private void operation() {
        if (armed == 0) {
            on = false;
            armed = Long.MAX_VALUE;
            throw new PowerFailed();
        }
        if (armed != Long.MAX_VALUE) {
            armed--;
        }
        operations++;
    }

    private void program(int place, int w) {
        operation();
        words[place] = words[place] & w;
    }

    private void clear(int b) {
        operation();
        Arrays.fill(words, 24 * b, 24 * b + 12, -1);
        operation();
        Arrays.fill(words, 24 * b + 12, 24 * b + 24, -1);
        program(24 * b, 6533);
    }

    private boolean inUse(int b) {
        return words[24 * b] == 6533;
    }

    // nodes

    List<Node> nodesOf(int b) {
        List<Node> found = new ArrayList<>();
        int at = 24 * b + 1;
        while (inUse(b) && at < 24 * b + 24 && words[at] != -1) {
            int head = words[at];
            int s = head & 0xFFFF;
            boolean marked = (head & 0x00800000) == 0;
            int c = 31 * 7 + (head | 0x00800000);
            for (int i = 1; i < s - 1; i++) {
                c = 31 * c + words[at + i];
            }
            boolean valid = !marked && words[at + s - 1] == 1 + (c & 0x3FFFFFFF);
            int kind = ((head | 0x00800000) - 0x5D800000) >>> 16;
            found.add(new Node(at, s, kind, valid, words[at + 1], words[at + 2], words[at + 3]));
            at += s;
        }
        return found;
    }

    private List<Node> valid() {
        List<Node> found = new ArrayList<>();
        for (int b = 0; b < 6; b++) {
            for (Node node : nodesOf(b)) {
                if (node.valid) {
                    found.add(node);
                }
            }
        }
        return found;
    }

    private int free(int b) {
        int used = 1;
        for (Node node : nodesOf(b)) {
            used += node.s;
        }
        return 24 - used;
    }

    private int dead(int b) {
        int dead = 0;
        for (Node node : nodesOf(b)) {
            dead += node.valid ? 0 : node.s;
        }
        return dead;
    }

    // what counts

    private boolean holds(Node link, int depth) {
        if (depth > 12) {
            return false;
        }
        for (Node other : valid()) {
            boolean rival = other.link() && (other.inode() == link.inode() || other.w2 == link.w2);
            if (rival && other.newerThan(link)) {
                return false;
            }
        }
        if (link.parent() == 1) {
            return true;
        }
        for (Node other : valid()) {
            boolean above = other.link() && other.directory() && other.inode() == link.parent();
            if (above && holds(other, depth + 1)) {
                return true;
            }
        }
        return false;
    }

    List<Node> tree() {
        List<Node> found = new ArrayList<>();
        for (Node node : valid()) {
            if (node.link() && holds(node, 1)) {
                found.add(node);
            }
        }
        return found;
    }

    private boolean seen(Node data, List<Node> tree) {
        boolean hasFile = false;
        for (Node link : tree) {
            hasFile |= !link.directory() && link.inode() == data.inode();
        }
        for (int cell = 0; hasFile && cell < 16; cell++) {
            if (data.hasCell(cell) && newest(data.inode(), cell) == data.place) {
                return true;
            }
        }
        return false;
    }

    private int newest(int inode, int cell) {
        Node best = null;
        for (Node node : valid()) {
            boolean has = node.data() && node.inode() == inode && node.hasCell(cell);
            if (has && (best == null || node.newerThan(best))) {
                best = node;
            }
        }
        return best == null ? -1 : best.place;
    }

    private void sweep() {
        List<Node> tree = tree();
        List<Node> useless = new ArrayList<>();
        for (Node node : valid()) {
            boolean counts = node.link() ? tree.contains(node) : seen(node, tree);
            if (!counts) {
                useless.add(node);
            }
        }
        for (Node node : useless) {
            program(node.place, words[node.place] & ~0x00800000);
        }
    }

    // the tree

    private Node linkOf(int inode) {
        for (Node link : tree()) {
            if (link.inode() == inode) {
                return link;
            }
        }
        return null;
    }

    private Node child(int parent, int name) {
        for (Node link : tree()) {
            if (link.parent() == parent && link.name() == name) {
                return link;
            }
        }
        return null;
    }

    private boolean isDirectory(int inode) {
        Node link = linkOf(inode);
        return inode == 1 || link != null && link.directory();
    }

    private boolean isFile(int inode) {
        Node link = linkOf(inode);
        return link != null && !link.directory();
    }

    private int entries(int inode) {
        int count = 0;
        for (Node link : tree()) {
            count += link.parent() == inode ? 1 : 0;
        }
        return count;
    }

    private static boolean badInode(int inode) {
        return inode < 1 || inode > 12;
    }

    private static boolean badName(int name) {
        return name < 1 || name > 9;
    }

    // placing

    private int blockFor(int s, int[] free, boolean[] hasNode, int without) {
        for (int b = 0; b < 6; b++) {
            if (b != without && inUse(b) && hasNode[b] && free[b] >= s) {
                return b;
            }
        }
        for (int b = 0; b < 6; b++) {
            if (b != without && inUse(b) && !hasNode[b]) {
                return b;
            }
        }
        return -1;
    }

    private int[] frees() {
        int[] free = new int[6];
        for (int b = 0; b < 6; b++) {
            free[b] = free(b);
        }
        return free;
    }

    private boolean[] haveNodes() {
        boolean[] have = new boolean[6];
        for (int b = 0; b < 6; b++) {
            have[b] = !nodesOf(b).isEmpty();
        }
        return have;
    }

    private int append(int kind, int... middle) {
        int version = 1;
        for (Node node : valid()) {
            version = Math.max(version, node.version + 1);
        }
        int s = middle.length + 3;
        int[] free = frees();
        boolean[] have = haveNodes();
        int block = blockFor(s, free, have, -1);
        if (block == -1) {
            return -5;
        }
        int without = 0;
        for (int b = 0; b < 6; b++) {
            without += inUse(b) && !have[b] ? 1 : 0;
        }
        if (!have[block] && without == 1) {
            return -5;
        }
        int[] node = new int[s];
        node[0] = 0x5D800000 + 65536 * kind + s;
        node[1] = version;
        System.arraycopy(middle, 0, node, 2, middle.length);
        int c = 7;
        for (int i = 0; i < s - 1; i++) {
            c = 31 * c + node[i];
        }
        node[s - 1] = 1 + (c & 0x3FFFFFFF);
        for (int i = 0; i < s; i++) {
            program(24 * block + 24 - free[block] + i, node[i]);
        }
        sweep();
        return version;
    }

    // the calls

    int mount() {
        on = true;
        try {
            for (int b = 0; b < 6; b++) {
                if (!inUse(b)) {
                    clear(b);
                }
            }
            sweep();
            return valid().size();
        } catch (PowerFailed failed) {
            return -8;
        }
    }

    boolean arm(int n) {
        if (n >= 0) {
            armed = n;
        }
        return n >= 0;
    }

    boolean spoil(int p) {
        if (on) {
            return false;
        }
        for (int b = 0; b < 6; b++) {
            if (inUse(b) && p == 24 * b) {
                words[p] = 0;
                return true;
            }
            for (Node node : nodesOf(b)) {
                if (node.place == p) {
                    words[p + node.s - 1] = 0;
                    return true;
                }
            }
        }
        return false;
    }

    int make(int parent, int name, boolean directory) {
        if (!on) {
            return -1;
        }
        if (badInode(parent) || badName(name)) {
            return -2;
        }
        if (!isDirectory(parent)) {
            return -3;
        }
        if (child(parent, name) != null) {
            return -4;
        }
        int inode = 2;
        while (inode <= 12 && linkOf(inode) != null) {
            inode++;
        }
        if (inode > 12) {
            return -5;
        }
        try {
            int outcome = append(1, 65536 * parent + name, 65536 * (directory ? 1 : 0) + inode);
            return outcome == -5 ? -5 : inode;
        } catch (PowerFailed failed) {
            return -8;
        }
    }

    int move(int parent, int name, int toParent, int toName) {
        if (!on) {
            return -1;
        }
        if (badInode(parent) || badName(name) || badInode(toParent) || badName(toName)) {
            return -2;
        }
        if (!isDirectory(parent) || child(parent, name) == null || !isDirectory(toParent)) {
            return -3;
        }
        Node from = child(parent, name);
        for (int at = toParent; from.directory() && at != 1; at = linkOf(at).parent()) {
            if (at == from.inode()) {
                return -7;
            }
        }
        if (parent == toParent && name == toName) {
            return from.inode();
        }
        Node there = child(toParent, toName);
        if (there != null && (there.directory() || from.directory())) {
            return -4;
        }
        try {
            int outcome = append(1, 65536 * toParent + toName, from.w3);
            return outcome == -5 ? -5 : from.inode();
        } catch (PowerFailed failed) {
            return -8;
        }
    }

    int remove(int parent, int name) {
        if (!on) {
            return -1;
        }
        if (badInode(parent) || badName(name)) {
            return -2;
        }
        if (!isDirectory(parent) || child(parent, name) == null) {
            return -3;
        }
        Node link = child(parent, name);
        if (link.directory() && entries(link.inode()) > 0) {
            return -6;
        }
        try {
            program(link.place, words[link.place] & ~0x00800000);
            sweep();
            return link.inode();
        } catch (PowerFailed failed) {
            return -8;
        }
    }

    int write(int inode, int offset, int n, int value) {
        if (!on) {
            return -1;
        }
        if (badInode(inode) || n < 1 || n > 6 || offset < 0 || (long) offset + n > 16) {
            return -2;
        }
        if (!isFile(inode)) {
            return -3;
        }
        int[] middle = new int[n + 1];
        middle[0] = 65536 * inode + offset;
        for (int i = 0; i < n; i++) {
            middle[i + 1] = value + i;
        }
        try {
            return append(2, middle);
        } catch (PowerFailed failed) {
            return -8;
        }
    }

    long read(int inode, int offset) {
        if (!on || offset < 0 || offset > 15 || !isFile(inode)) {
            return 1L << 40;
        }
        int place = newest(inode, offset);
        return place == -1 ? 0 : words[place + 3 + offset - (words[place + 2] & 0xFFFF)];
    }

    int size(int inode) {
        if (!on) {
            return -1;
        }
        if (badInode(inode)) {
            return -2;
        }
        if (isDirectory(inode)) {
            return entries(inode);
        }
        if (!isFile(inode)) {
            return -3;
        }
        int size = 0;
        for (Node node : valid()) {
            if (node.data() && node.inode() == inode) {
                size = Math.max(size, node.offset() + node.s - 4);
            }
        }
        return size;
    }

    int entry(int parent, int name) {
        if (!on) {
            return -1;
        }
        if (badInode(parent) || badName(name)) {
            return -2;
        }
        Node link = child(parent, name);
        return isDirectory(parent) && link != null ? link.inode() : -3;
    }

    int kindOf(int inode) {
        if (!on) {
            return -1;
        }
        return isDirectory(inode) ? 2 : isFile(inode) ? 1 : 0;
    }

    /** The places for the valid nodes of a block in the others, or null when it can't be served. */
    private List<Integer> placesFor(int block) {
        if (!inUse(block) || dead(block) == 0) {
            return null;
        }
        int[] free = frees();
        boolean[] have = haveNodes();
        List<Integer> places = new ArrayList<>();
        for (Node node : nodesOf(block)) {
            if (node.valid) {
                int to = blockFor(node.s, free, have, block);
                if (to == -1) {
                    return null;
                }
                places.add(24 * to + 24 - free[to]);
                free[to] -= node.s;
                have[to] = true;
            }
        }
        return places;
    }

    int collect() {
        if (!on) {
            return -1;
        }
        int taken = -1;
        for (int b = 5; b >= 0; b--) {
            if (placesFor(b) != null && (taken == -1 || dead(b) >= dead(taken))) {
                taken = b;
            }
        }
        if (taken == -1) {
            return 0;
        }
        int gained = dead(taken);
        for (int b = 0; b < 6; b++) {
            passedOver += dead(b) > gained ? 1 : 0;
        }
        List<Integer> places = placesFor(taken);
        try {
            int next = 0;
            for (Node node : nodesOf(taken)) {
                if (node.valid) {
                    for (int i = 0; i < node.s; i++) {
                        program(places.get(next) + i, words[node.place + i]);
                    }
                    next++;
                }
            }
            clear(taken);
            return gained;
        } catch (PowerFailed failed) {
            return -8;
        }
    }

    int freeWords(int b) {
        return b < 0 || b > 5 || !inUse(b) ? -1 : free(b);
    }

    int deadWords(int b) {
        return b < 0 || b > 5 || !inUse(b) ? -1 : dead(b);
    }

    int peek(int p) {
        return p < 0 || p > 143 ? 0 : words[p];
    }

    int operations() {
        return operations;
    }
}
