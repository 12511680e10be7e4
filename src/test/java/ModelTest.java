import java.util.Random;
import java.util.TreeMap;

/**
 * All promises: runs of calls with fixed seeds, each answer held against that of PlainModel, and the
 * whole flash at the end of each run. It also fails when the runs no longer reach an answer that they
 * are there to reach.
 */
final class ModelTest {
    private static final int RUNS = 1500;
    /** With the 144 words at its end a run stays within the 512 calls that are promised. */
    private static final int CALLS = 360;
    private static final String[] MUST_BE_REACHED = {
        "mount CUT", "make OFF", "make BAD", "make MISSING", "make EXISTS", "make FULL", "make CUT", "make done",
        "move OFF", "move BAD", "move MISSING", "move LOOP", "move EXISTS", "move FULL", "move CUT", "move done",
        "remove OFF", "remove BAD", "remove MISSING", "remove NOT_EMPTY", "remove CUT", "remove done",
        "write OFF", "write BAD", "write MISSING", "write FULL", "write CUT", "write done",
        "size OFF", "size BAD", "size MISSING", "entry OFF", "entry BAD", "entry MISSING", "kindOf OFF",
        "collect OFF", "collect 0", "collect CUT", "collect done", "collect passed over", "spoil 0", "spoil 1",
        "freeWords -1", "deadWords -1", "read refused", "read done", "arm 0", "arm 1",
    };

    private final Check check = new Check();
    private final TreeMap<String, Integer> reached = new TreeMap<>();
    private final int seed;
    private final Random random;
    private final NodeLogFlash x = new NodeLogFlash();
    private final PlainModel model = new PlainModel();
    private final int directories;
    private final int cutRate;
    private final int spoilRate;
    private final int collectRate;

    private ModelTest(int seed) {
        this.seed = seed;
        random = new Random(seed);
        directories = 10 + random.nextInt(60);
        cutRate = random.nextInt(3) == 0 ? 0 : 2 + random.nextInt(10);
        spoilRate = random.nextInt(3) * 20;
        collectRate = random.nextInt(4) * 5;
    }

    private boolean chance(int percent) {
        return random.nextInt(100) < percent;
    }

    private int wild(int low, int high) {
        int[] edges = {low - 1, high + 1, Integer.MIN_VALUE, Integer.MAX_VALUE, -1, 0};
        return edges[random.nextInt(edges.length)];
    }

    private int some(int low, int high) {
        return chance(2) ? wild(low, high) : low + random.nextInt(high - low + 1);
    }

    private int inode() {
        return chance(30) ? some(1, 12) : some(1, 5);
    }

    private int name() {
        return chance(20) ? some(1, 9) : some(1, 3);
    }

    private void answer(String name, String arguments, long got, long want) {
        check.due("seed " + seed + ": " + name + arguments, got, want);
        String[] refusals = {"OFF", "BAD", "MISSING", "EXISTS", "FULL", "NOT_EMPTY", "LOOP", "CUT"};
        String outcome = want < 0 ? refusals[(int) -want - 1] : "done";
        count(name + " " + outcome);
    }

    private void count(String what) {
        reached.merge(what, 1, Integer::sum);
    }

    private void probe() {
        int a = inode();
        int b = name();
        int cell = some(0, 15);
        switch (random.nextInt(8)) {
            case 0 -> answer("size", "(" + a + ")", x.size(a), model.size(a));
            case 1 -> answer("entry", "(" + a + ", " + b + ")", x.entry(a, b), model.entry(a, b));
            case 2 -> answer("kindOf", "(" + a + ")", x.kindOf(a), model.kindOf(a));
            case 3 -> {
                int block = some(0, 5);
                int want = model.freeWords(block);
                check.due("seed " + seed + ": freeWords(" + block + ")", x.freeWords(block), want);
                count("freeWords " + want);
            }
            case 4 -> {
                int block = some(0, 5);
                int want = model.deadWords(block);
                check.due("seed " + seed + ": deadWords(" + block + ")", x.deadWords(block), want);
                count("deadWords " + want);
            }
            case 5 -> {
                int place = some(0, 143);
                check.due("seed " + seed + ": peek(" + place + ")", x.peek(place), model.peek(place));
            }
            case 6 -> check.due("seed " + seed + ": operations()", x.operations(), model.operations());
            default -> {
                long want = model.read(a, cell);
                check.due("seed " + seed + ": read(" + a + ", " + cell + ")", x.read(a, cell), want);
                count(want == 1L << 40 ? "read refused" : "read done");
            }
        }
    }

    private void arm() {
        int n = chance(5) ? -1 - random.nextInt(3) : random.nextInt(chance(50) ? 12 : 30);
        boolean want = model.arm(n);
        check.due("seed " + seed + ": arm(" + n + ")", x.arm(n), want);
        count("arm " + (want ? 1 : 0));
    }

    private void spoil() {
        int p = some(0, 143);
        int block = random.nextInt(6);
        var nodes = model.nodesOf(block);
        if (chance(70) && !nodes.isEmpty()) {
            p = nodes.get(random.nextInt(nodes.size())).place();
        } else if (chance(20)) {
            p = 24 * block;
        }
        boolean want = model.spoil(p);
        check.due("seed " + seed + ": spoil(" + p + ")", x.spoil(p), want);
        count("spoil " + (want ? 1 : 0));
    }

    /** Often an entry of the tree, or else whatever numbers come. */
    private int[] entry() {
        var tree = model.tree();
        if (tree.isEmpty() || chance(30)) {
            return new int[] {inode(), name(), inode()};
        }
        var link = tree.get(random.nextInt(tree.size()));
        return new int[] {link.parent(), link.name(), link.inode()};
    }

    private void change() {
        int[] entry = entry();
        int a = entry[0];
        int b = entry[1];
        int c = inode();
        int d = name();
        int kind = random.nextInt(100 + collectRate);
        if (kind < 30) {
            b = name();
            boolean directory = chance(directories);
            answer("make", "(" + a + ", " + b + ", " + directory + ")",
                x.make(a, b, directory), model.make(a, b, directory));
        } else if (kind < 55) {
            answer("move", "(" + a + ", " + b + ", " + c + ", " + d + ")", x.move(a, b, c, d), model.move(a, b, c, d));
        } else if (kind < 62) {
            answer("remove", "(" + a + ", " + b + ")", x.remove(a, b), model.remove(a, b));
        } else if (kind < 98) {
            a = entry[2];
            int n = some(1, 6);
            int offset = n >= 1 && n <= 6 ? some(0, 16 - n) : some(0, 15);
            int value = chance(10) ? -1 - random.nextInt(4) : random.nextInt();
            answer("write", "(" + a + ", " + offset + ", " + n + ", " + value + ")",
                x.write(a, offset, n, value), model.write(a, offset, n, value));
        } else {
            int want = model.collect();
            answer("collect", "()", x.collect(), want);
            count("collect " + want);
        }
    }

    private void call() {
        if (chance(30)) {
            probe();
        } else if (chance(cutRate)) {
            arm();
        } else if (!model.on && chance(spoilRate) || chance(1)) {
            spoil();
        } else if (!model.on && chance(60) || chance(2)) {
            answer("mount", "()", x.mount(), model.mount());
        } else {
            change();
        }
    }

    private Check run() {
        for (int i = 0; i < CALLS; i++) {
            call();
        }
        for (int p = 0; p < 144; p++) {
            check.due("seed " + seed + ": peek(" + p + ") at the end", x.peek(p), model.peek(p));
        }
        if (model.passedOver > 0) {
            count("collect passed over");
        }
        return check;
    }

    public static void main(String[] args) {
        TreeMap<String, Integer> all = new TreeMap<>();
        Check total = new Check();
        for (int seed = 1; seed <= RUNS && total.wrong() == 0; seed++) {
            ModelTest test = new ModelTest(seed);
            total.add(test.run());
            test.reached.forEach((what, times) -> all.merge(what, times, Integer::sum));
        }
        if (args.length > 0) {
            System.out.println(all);
        }
        for (String what : MUST_BE_REACHED) {
            total.due("'" + what + "' was reached", total.wrong() > 0 || all.containsKey(what), true);
        }
        total.end();
    }
}
