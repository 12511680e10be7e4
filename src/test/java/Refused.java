import java.util.function.Supplier;

/** "A call that is refused changes nothing": neither the flash nor the power, nor what is armed. */
final class Refused {
    interface Call {
        long on(NodeLogFlash x);
    }

    private final Check check;

    Refused(Check check) {
        this.check = check;
    }

    void due(String what, Supplier<NodeLogFlash> state, Call call, long want) {
        changesNothing(what, state.get(), call, want);
        leavesWhatIsArmed(what, state.get(), call, want);
    }

    private void changesNothing(String what, NodeLogFlash x, Call call, long want) {
        int power = x.kindOf(1);
        int operations = x.operations();
        int[] before = Check.words(x);
        check.due(what, call.on(x), want);
        check.due(what + ", the power", x.kindOf(1), power);
        check.due(what + ", operations()", x.operations(), operations);
        check.dueWords(what, x, before, 0, 144);
    }

    /** Without an operation the power cannot fail; the first one behind the refused call does not happen. */
    private void leavesWhatIsArmed(String what, NodeLogFlash x, Call call, long want) {
        int power = x.kindOf(1);
        x.arm(0);
        check.due(what + ", armed", call.on(x), want);
        check.due(what + ", armed, the power", x.kindOf(1), power);
        if (power == NodeLogFlash.OFF) {
            x.mount();
        }
        check.due(what + ", still armed", x.remove(1, 1), NodeLogFlash.CUT);
    }
}
