/** Promise 4: spoil makes word 0 of a block, or the last word of a node, 0. */
final class Promise04SpoilTest {
    private static final Check C = new Check();

    private static NodeLogFlash offWithNodes() {
        NodeLogFlash x = Check.mounted();
        x.make(1, 1, false);
        x.write(2, 0, 3, 10);
        x.write(2, 0, 3, 20);
        Check.cutPower(x);
        return x;
    }

    private static void onlyItsPlacesAndOnlyWithThePowerOff() {
        boolean[] place = new boolean[144];
        for (int b = 0; b < 6; b++) {
            place[24 * b] = true;
        }
        place[1] = true;
        place[6] = true;
        place[13] = true;
        for (int p = -2; p < 147; p++) {
            boolean due = p >= 0 && p < 144 && place[p];
            NodeLogFlash x = offWithNodes();
            C.due("spoil(" + p + ")", x.spoil(p), due);
            x.mount();
            C.due("spoil(" + p + ") with the power on", x.spoil(p), false);
        }
        NodeLogFlash x = offWithNodes();
        C.due("spoil(MIN)", x.spoil(Integer.MIN_VALUE), false);
        C.due("spoil(MAX)", x.spoil(Integer.MAX_VALUE), false);
    }

    private static void changesOneWord(int p, int changed) {
        NodeLogFlash x = offWithNodes();
        int[] before = Check.words(x);
        int operations = x.operations();
        x.spoil(p);
        for (int q = 0; q < 144; q++) {
            C.due("peek(" + q + ") after spoil(" + p + ")", x.peek(q), q == changed ? 0 : before[q]);
        }
        C.due("operations(): it is none", x.operations(), operations);
        C.due("kindOf(1): the power stays off", x.kindOf(1), NodeLogFlash.OFF);
    }

    private static void spoiltNodesAreDead() {
        NodeLogFlash x = offWithNodes();
        C.due("deadWords(0): the older data", x.deadWords(0), 7);
        C.due("spoil(13)", x.spoil(13), true);
        C.due("deadWords(0)", x.deadWords(0), 14);
        C.due("freeWords(0)", x.freeWords(0), 4);
        C.due("spoil(13) again", x.spoil(13), true);
        C.due("deadWords(0)", x.deadWords(0), 14);
        C.due("mount()", x.mount(), 1);
        C.due("size(2)", x.size(2), 0);
        C.due("write: versions go on from the valid nodes", x.write(2, 0, 1, 5), 2);
    }

    private static void spoiltBlocksAreNotInUse() {
        NodeLogFlash x = offWithNodes();
        C.due("spoil(0)", x.spoil(0), true);
        C.due("freeWords(0)", x.freeWords(0), -1);
        C.due("deadWords(0)", x.deadWords(0), -1);
        C.due("spoil(0) again", x.spoil(0), false);
        C.due("spoil(1) in a block that is not in use", x.spoil(1), false);
        C.due("peek(5) is as it was", x.peek(5) != 0, true);
        C.due("mount()", x.mount(), 0);
    }

    private static void nodesThatWereCutOrNeverWritten() {
        NodeLogFlash x = Check.mounted();
        x.arm(1);
        C.due("make", x.make(1, 1, false), NodeLogFlash.CUT);
        C.due("spoil(6): no node there", x.spoil(6), false);
        C.due("spoil(1): only its HEAD is there", x.spoil(1), true);
        C.due("peek(5)", x.peek(5), 0);
        C.due("peek(4)", x.peek(4), -1);
        C.due("freeWords(0)", x.freeWords(0), 18);
    }

    /** What is spoilt before a mount is seen by the next call, whatever was asked before. */
    private static void answersDoNotLagBehind() {
        NodeLogFlash x = offWithNodes();
        C.due("freeWords(3)", x.freeWords(3), 23);
        x.spoil(72);
        C.due("freeWords(3)", x.freeWords(3), -1);
        C.due("deadWords(0)", x.deadWords(0), 7);
        x.spoil(1);
        C.due("deadWords(0)", x.deadWords(0), 12);
    }

    public static void main(String[] args) {
        onlyItsPlacesAndOnlyWithThePowerOff();
        changesOneWord(0, 0);
        changesOneWord(1, 5);
        changesOneWord(6, 12);
        changesOneWord(13, 19);
        changesOneWord(120, 120);
        changesOneWord(2, -1);
        spoiltNodesAreDead();
        spoiltBlocksAreNotInUse();
        nodesThatWereCutOrNeverWritten();
        answersDoNotLagBehind();
        C.end();
    }
}
