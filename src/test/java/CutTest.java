import java.util.Arrays;
import java.util.List;

/**
 * The power fails before each single operation of a run of calls, and again in the mount after it:
 * the tree is then what it was before the call or what it is after it, never anything between.
 */
final class CutTest {
    private interface Step {
        int on(NodeLogFlash x);
    }

    private static final Check C = new Check();
    private static final List<Step> RUN = List.of(
        x -> x.make(1, 1, true),
        x -> x.make(2, 3, false),
        x -> x.make(1, 2, false),
        x -> x.write(3, 0, 4, 100),
        x -> x.write(4, 10, 6, 200),
        x -> x.write(3, 2, 4, 300),
        x -> x.move(2, 3, 1, 5),
        x -> x.write(3, 0, 6, 400),
        x -> x.collect(),
        x -> x.move(1, 5, 1, 2),
        x -> x.make(2, 1, true),
        x -> x.move(2, 1, 1, 7),
        x -> x.move(1, 1, 4, 1),
        x -> x.collect(),
        x -> x.write(3, 8, 5, 500),
        x -> x.collect(),
        x -> x.remove(4, 1),
        x -> x.remove(1, 2),
        x -> x.collect(),
        x -> x.make(4, 9, false));

    private static NodeLogFlash after(int steps) {
        NodeLogFlash x = Check.mounted();
        for (Step step : RUN.subList(0, steps)) {
            step.on(x);
        }
        return x;
    }

    private static long[] tree(NodeLogFlash x) {
        long[] seen = new long[13 * 32];
        for (int inode = 1; inode <= 12; inode++) {
            seen[32 * inode] = x.kindOf(inode);
            seen[32 * inode + 1] = x.size(inode);
            if (seen[32 * inode] == 2) {
                for (int name = 1; name <= 9; name++) {
                    seen[32 * inode + 2 + name] = x.entry(inode, name);
                }
            }
            if (seen[32 * inode] == 1) {
                for (int cell = 0; cell < 16; cell++) {
                    seen[32 * inode + 12 + cell] = x.read(inode, cell);
                }
            }
        }
        return seen;
    }

    /** Cuts the step after n operations and the mount after it after m; answers whether the step was cut. */
    private static boolean cut(int step, int n, int m) {
        String what = "step " + step + " cut after " + n + ", mount after " + m;
        NodeLogFlash x = after(step);
        x.arm(n);
        int answer = RUN.get(step).on(x);
        boolean wasCut = answer == NodeLogFlash.CUT;
        C.due(what + ": the power is off", x.kindOf(1) == NodeLogFlash.OFF, wasCut);
        x.arm(m);
        boolean again = x.mount() == NodeLogFlash.CUT;
        if (again) {
            x.mount();
        }
        long[] seen = tree(x);
        boolean before = Arrays.equals(seen, tree(after(step)));
        boolean behind = Arrays.equals(seen, tree(after(step + 1)));
        C.due(what + ": before or behind", before || behind, true);
        C.due(what + ": done when it was not cut", wasCut || behind, true);
        return wasCut;
    }

    public static void main(String[] args) {
        for (int step = 0; step < RUN.size(); step++) {
            for (int m = 0; m < 5; m++) {
                int n = 0;
                while (n < 60 && cut(step, n, m)) {
                    n++;
                }
                C.due("step " + step + " ends", n < 60, true);
            }
        }
        C.due("the last step", after(RUN.size()).entry(4, 9), 2);
        C.end();
    }
}
