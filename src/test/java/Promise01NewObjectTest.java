/** Promise 1: all words -1, the power off, nothing armed. */
final class Promise01NewObjectTest {
    private static final Check C = new Check();

    private static void allWordsAreErased() {
        NodeLogFlash x = new NodeLogFlash();
        for (int p = 0; p < 144; p++) {
            C.due("peek(" + p + ")", x.peek(p), -1);
        }
        C.due("operations()", x.operations(), 0);
        for (int b = 0; b < 6; b++) {
            C.due("freeWords(" + b + ")", x.freeWords(b), -1);
            C.due("deadWords(" + b + ")", x.deadWords(b), -1);
            C.due("spoil(" + 24 * b + ")", x.spoil(24 * b), false);
        }
    }

    private static void powerIsOff() {
        NodeLogFlash x = new NodeLogFlash();
        C.due("make", x.make(1, 1, true), NodeLogFlash.OFF);
        C.due("move", x.move(1, 1, 1, 2), NodeLogFlash.OFF);
        C.due("remove", x.remove(1, 1), NodeLogFlash.OFF);
        C.due("write", x.write(2, 0, 1, 1), NodeLogFlash.OFF);
        C.due("read", x.read(2, 0), NodeLogFlash.NO_CELL);
        C.due("size", x.size(1), NodeLogFlash.OFF);
        C.due("entry", x.entry(1, 1), NodeLogFlash.OFF);
        C.due("kindOf", x.kindOf(1), NodeLogFlash.OFF);
        C.due("collect", x.collect(), NodeLogFlash.OFF);
        C.due("operations()", x.operations(), 0);
    }

    private static void nothingIsArmed() {
        NodeLogFlash x = new NodeLogFlash();
        C.due("mount()", x.mount(), 0);
        C.due("make(1, 1, false)", x.make(1, 1, false), 2);
        for (int version = 2; version < 9; version++) {
            C.due("write", x.write(2, 0, 1, version), version);
        }
        C.due("operations()", x.operations(), 18 + 5 + 7 * 5 + 6);
    }

    private static void objectsShareNothing() {
        NodeLogFlash x = new NodeLogFlash();
        NodeLogFlash y = new NodeLogFlash();
        x.arm(3);
        C.due("y.mount()", y.mount(), 0);
        C.due("y.make", y.make(1, 1, true), 2);
        C.due("x.peek(0)", x.peek(0), -1);
        C.due("x.kindOf(1)", x.kindOf(1), NodeLogFlash.OFF);
        C.due("x.operations()", x.operations(), 0);
        C.due("x.mount()", x.mount(), NodeLogFlash.CUT);
        C.due("y.kindOf(2)", y.kindOf(2), 2);
    }

    public static void main(String[] args) {
        allWordsAreErased();
        powerIsOff();
        nothingIsArmed();
        objectsShareNothing();
        C.end();
    }
}
