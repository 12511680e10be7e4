/** Promise 17: how many operations there were. */
final class Promise17OperationsTest {
    private static final Check C = new Check();

    private static void step(NodeLogFlash x, String what, int want) {
        C.due("operations() after " + what, x.operations(), want);
    }

    public static void main(String[] args) {
        NodeLogFlash x = new NodeLogFlash();
        step(x, "nothing", 0);
        x.make(1, 1, false);
        x.arm(7);
        step(x, "calls with the power off", 0);
        x.mount();
        step(x, "a mount that was cut: what did not happen is not counted", 7);
        x.mount();
        step(x, "the mount of four blocks", 19);
        x.make(1, 1, false);
        step(x, "make", 24);
        x.make(1, 1, false);
        x.make(0, 1, false);
        x.write(9, 0, 1, 1);
        step(x, "refused calls", 24);
        x.write(2, 0, 6, -1);
        step(x, "write: words of -1 are programmed too", 34);
        x.write(2, 0, 6, 5);
        step(x, "write with a mark", 45);
        x.move(1, 1, 1, 2);
        step(x, "move with a mark", 51);
        x.read(2, 0);
        x.size(2);
        x.entry(1, 2);
        x.kindOf(2);
        x.peek(3);
        x.freeWords(0);
        x.deadWords(0);
        step(x, "calls that only look", 51);
        C.due("deadWords(0)", x.deadWords(0), 15);
        x.collect();
        step(x, "collect of a link: 5 words and a clearing", 51 + 5 + 3);
        x.remove(1, 2);
        step(x, "remove: the link and the data", 61);
        x.mount();
        step(x, "mount with nothing to do", 61);
        Check.cutPower(x);
        step(x, "a call that was cut before its first operation", 61);
        x.spoil(0);
        step(x, "spoil", 61);
        C.end();
    }
}
