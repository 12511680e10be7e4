/** Promise 14: how many free words a block has. */
final class Promise14FreeWordsTest {
    private static final Check C = new Check();

    public static void main(String[] args) {
        NodeLogFlash x = new NodeLogFlash();
        C.due("freeWords(0) before the first mount", x.freeWords(0), -1);
        x.mount();
        int[] bad = {-1, 6, Integer.MIN_VALUE, Integer.MAX_VALUE};
        for (int b : bad) {
            C.due("freeWords(" + b + ")", x.freeWords(b), -1);
        }
        for (int b = 0; b < 6; b++) {
            C.due("freeWords(" + b + ")", x.freeWords(b), 23);
        }
        x.make(1, 1, false);
        C.due("freeWords(0)", x.freeWords(0), 18);
        x.write(2, 0, 4, -1);
        C.due("freeWords(0): cells of -1 are not free", x.freeWords(0), 10);
        x.write(2, 0, 6, -3);
        C.due("freeWords(0)", x.freeWords(0), 0);
        C.due("freeWords(1)", x.freeWords(1), 23);
        x.arm(1);
        x.write(2, 0, 6, 5);
        C.due("freeWords(1): a HEAD alone takes its whole length", x.freeWords(1), 13);
        C.due("freeWords(0) with the power off", x.freeWords(0), 0);
        C.due("freeWords(5) with the power off", x.freeWords(5), 23);
        x.spoil(120);
        C.due("freeWords(5), not in use", x.freeWords(5), -1);
        x.mount();
        C.due("freeWords(5)", x.freeWords(5), 23);
        C.due("operations()", x.operations(), 18 + 5 + 8 + 10 + 1 + 1 + 3);
        C.end();
    }
}
