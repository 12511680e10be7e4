/** Promise 12: 2 for a directory, 1 for a file, 0 for any other number. */
final class Promise12KindOfTest {
    private static final Check C = new Check();

    public static void main(String[] args) {
        NodeLogFlash x = new NodeLogFlash();
        C.due("kindOf(1)", x.kindOf(1), NodeLogFlash.OFF);
        C.due("kindOf(99)", x.kindOf(99), NodeLogFlash.OFF);
        x.mount();
        C.due("kindOf(1)", x.kindOf(1), 2);
        x.make(1, 1, true);
        x.make(1, 2, false);
        C.due("kindOf(2)", x.kindOf(2), 2);
        C.due("kindOf(3)", x.kindOf(3), 1);
        int[] others = {0, 4, 12, 13, 14, -1, Integer.MIN_VALUE, Integer.MAX_VALUE};
        for (int number : others) {
            C.due("kindOf(" + number + ")", x.kindOf(number), 0);
        }
        x.remove(1, 1);
        C.due("kindOf(2) when it is gone", x.kindOf(2), 0);
        C.due("make", x.make(1, 3, false), 2);
        C.due("kindOf(2) as a file", x.kindOf(2), 1);
        C.due("operations()", x.operations(), 18 + 15 + 1);
        Check.cutPower(x);
        C.due("kindOf(2)", x.kindOf(2), NodeLogFlash.OFF);
        x.spoil(6);
        C.due("mount()", x.mount(), 1);
        C.due("kindOf(2) right after a mount", x.kindOf(2), 1);
        C.due("kindOf(3) when its link went bad", x.kindOf(3), 0);
        x.write(2, 0, 1, 1);
        x.write(2, 0, 1, 2);
        C.due("deadWords(0)", x.deadWords(0), 15);
        C.due("kindOf(2) right after a mark", x.kindOf(2), 1);
        C.end();
    }
}
