/** Promise 16: the word at a place. */
final class Promise16PeekTest {
    private static final Check C = new Check();

    public static void main(String[] args) {
        NodeLogFlash x = new NodeLogFlash();
        int[] outside = {-1, 144, 145, Integer.MIN_VALUE, Integer.MAX_VALUE};
        for (int p : outside) {
            C.due("peek(" + p + ")", x.peek(p), 0);
        }
        C.due("peek(0) with the power off", x.peek(0), -1);
        C.due("peek(143) with the power off", x.peek(143), -1);
        x.mount();
        C.due("peek(0)", x.peek(0), 6533);
        C.due("peek(120)", x.peek(120), 6533);
        C.due("peek(143)", x.peek(143), -1);
        C.due("peek(144)", x.peek(144), 0);
        x.make(1, 1, true);
        C.dueNode("a link", x, 1, 1568735237, 1, 65537, 65538);
        x.remove(1, 1);
        C.due("a marked HEAD", x.peek(1), 1568735237 - 0x00800000);
        C.due("the rest of it stays", x.peek(5), 660860485);
        Check.cutPower(x);
        C.due("peek(3) with the power off", x.peek(3), 65537);
        x.spoil(1);
        C.due("peek(5), gone bad", x.peek(5), 0);
        C.due("operations()", x.operations(), 18 + 5 + 1);
        C.end();
    }
}
