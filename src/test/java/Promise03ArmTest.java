/** Promise 3: arm lets n operations more succeed. */
final class Promise03ArmTest {
    private static final Check C = new Check();

    private static void answers() {
        NodeLogFlash x = new NodeLogFlash();
        C.due("arm(-1)", x.arm(-1), false);
        C.due("arm(MIN)", x.arm(Integer.MIN_VALUE), false);
        C.due("mount(): nothing was armed", x.mount(), 0);
        C.due("arm(MAX) with the power on", x.arm(Integer.MAX_VALUE), true);
        C.due("make", x.make(1, 1, false), 2);
        C.due("arm(0) with the power on", x.arm(0), true);
        C.due("make", x.make(1, 2, false), NodeLogFlash.CUT);
        C.due("arm(0) with the power off", x.arm(0), true);
        C.due("mount() without operations", x.mount(), 1);
        C.due("write: still armed", x.write(2, 0, 1, 1), NodeLogFlash.CUT);
    }

    private static void lastArmCounts() {
        NodeLogFlash x = Check.mounted();
        x.arm(2);
        x.arm(5);
        C.due("make", x.make(1, 1, false), 2);
        C.due("arm(-5)", x.arm(-5), false);
        C.due("make: a refused arm changes nothing", x.make(1, 2, false), NodeLogFlash.CUT);
        x.mount();
        x.arm(9);
        x.arm(0);
        C.due("make after the lesser arm", x.make(1, 2, false), NodeLogFlash.CUT);
    }

    private static void nothingIsArmedAfterTheCut() {
        NodeLogFlash x = Check.mounted();
        x.arm(3);
        C.due("make", x.make(1, 1, false), NodeLogFlash.CUT);
        C.due("operations()", x.operations(), 21);
        C.due("make", x.make(1, 1, false), NodeLogFlash.OFF);
        C.due("mount()", x.mount(), 0);
        C.due("make", x.make(1, 1, false), 2);
        C.due("make", x.make(1, 2, false), 3);
        C.due("operations()", x.operations(), 31);
    }

    private static void countsOverSeveralCalls() {
        NodeLogFlash x = Check.mounted();
        x.arm(12);
        C.due("make", x.make(1, 1, false), 2);
        C.due("make", x.make(1, 2, false), 3);
        C.due("remove", x.remove(1, 1), 2);
        C.due("make: one operation is left", x.make(1, 1, false), NodeLogFlash.CUT);
        C.due("operations()", x.operations(), 18 + 12);
        C.due("its HEAD is there", x.peek(11), 0x5D810005);
        C.due("no more", x.peek(12), -1);
    }

    /** A call that ends with the last operation that was let succeed is whole. */
    private static void justEnough() {
        NodeLogFlash x = Check.mounted();
        x.arm(5);
        C.due("make", x.make(1, 1, false), 2);
        C.due("kindOf(2): the power is on", x.kindOf(2), 1);
        C.due("mount() needs no operation", x.mount(), 1);
        C.due("collect() neither", x.collect(), 0);
        C.due("make", x.make(1, 2, false), NodeLogFlash.CUT);
    }

    private static void armedWhileOff() {
        NodeLogFlash x = new NodeLogFlash();
        C.due("arm(20)", x.arm(20), true);
        C.due("kindOf(1)", x.kindOf(1), NodeLogFlash.OFF);
        C.due("mount()", x.mount(), 0);
        C.due("make: 2 are left", x.make(1, 1, false), NodeLogFlash.CUT);
        C.due("operations()", x.operations(), 20);
    }

    public static void main(String[] args) {
        answers();
        lastArmCounts();
        nothingIsArmedAfterTheCut();
        countsOverSeveralCalls();
        justEnough();
        armedWhileOff();
        C.end();
    }
}
