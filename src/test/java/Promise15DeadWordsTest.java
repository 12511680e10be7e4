/** Promise 15: how many dead words a block has. */
final class Promise15DeadWordsTest {
    private static final Check C = new Check();

    public static void main(String[] args) {
        NodeLogFlash x = new NodeLogFlash();
        C.due("deadWords(0) before the first mount", x.deadWords(0), -1);
        x.mount();
        int[] bad = {-1, 6, Integer.MIN_VALUE, Integer.MAX_VALUE};
        for (int b : bad) {
            C.due("deadWords(" + b + ")", x.deadWords(b), -1);
        }
        for (int b = 0; b < 6; b++) {
            C.due("deadWords(" + b + ")", x.deadWords(b), 0);
        }
        x.make(1, 1, false);
        x.write(2, 0, 3, 1);
        C.due("deadWords(0)", x.deadWords(0), 0);
        x.write(2, 0, 4, 2);
        C.due("deadWords(0): data that was marked", x.deadWords(0), 7);
        x.arm(2);
        x.write(2, 6, 2, 3);
        C.due("deadWords(1): data that was cut", x.deadWords(1), 6);
        C.due("deadWords(0) with the power off", x.deadWords(0), 7);
        x.spoil(13);
        C.due("deadWords(0): data that went bad", x.deadWords(0), 15);
        x.spoil(1);
        C.due("deadWords(0): a link that went bad", x.deadWords(0), 20);
        x.spoil(24);
        C.due("deadWords(1), not in use", x.deadWords(1), -1);
        x.mount();
        C.due("deadWords(1)", x.deadWords(1), 0);
        C.due("deadWords(0)", x.deadWords(0), 20);
        C.due("operations()", x.operations(), 18 + 5 + 7 + 8 + 1 + 2 + 3);
        C.due("collect()", x.collect(), 20);
        C.due("deadWords(0)", x.deadWords(0), 0);
        C.end();
    }
}
