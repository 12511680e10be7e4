/**
 * "Refusals are tested in the order in which they are named at each call; a call that is refused changes
 * nothing." Each call here could be refused for two reasons at least.
 */
final class OrderOfRefusalsTest {
    private static final Check C = new Check();
    private static final Refused R = new Refused(C);

    private static void make() {
        R.due("OFF before BAD", States::off, x -> x.make(0, 10, true), NodeLogFlash.OFF);
        R.due("OFF before MISSING", States::off, x -> x.make(8, 1, true), NodeLogFlash.OFF);
        R.due("OFF before EXISTS", States::off, x -> x.make(1, 1, true), NodeLogFlash.OFF);
        R.due("OFF before FULL", States::fullAndOff, x -> x.make(1, 9, true), NodeLogFlash.OFF);
        R.due("BAD before MISSING", States::forest, x -> x.make(8, 0, true), NodeLogFlash.BAD);
        R.due("BAD before MISSING, a file", States::forest, x -> x.make(2, 10, true), NodeLogFlash.BAD);
        R.due("BAD before FULL", States::full, x -> x.make(1, 10, true), NodeLogFlash.BAD);
        R.due("BAD before FULL, no inode", States::noInode, x -> x.make(13, 9, true), NodeLogFlash.BAD);
        R.due("MISSING before FULL", States::full, x -> x.make(8, 1, true), NodeLogFlash.MISSING);
        R.due("MISSING before FULL, no inode", States::noInode, x -> x.make(2, 1, true), NodeLogFlash.MISSING);
        R.due("EXISTS before FULL", States::full, x -> x.make(1, 1, true), NodeLogFlash.EXISTS);
        R.due("EXISTS before FULL, no inode", States::noInode, x -> x.make(1, 1, true), NodeLogFlash.EXISTS);
    }

    private static void moveWithThePowerOff() {
        R.due("OFF before BAD", States::off, x -> x.move(0, 0, 0, 0), NodeLogFlash.OFF);
        R.due("OFF before MISSING", States::off, x -> x.move(8, 1, 1, 1), NodeLogFlash.OFF);
        R.due("OFF before LOOP", States::off, x -> x.move(1, 2, 3, 9), NodeLogFlash.OFF);
        R.due("OFF before the same place", States::off, x -> x.move(1, 1, 1, 1), NodeLogFlash.OFF);
        R.due("OFF before EXISTS", States::off, x -> x.move(1, 1, 1, 2), NodeLogFlash.OFF);
        R.due("OFF before FULL", States::fullAndOff, x -> x.move(1, 1, 1, 9), NodeLogFlash.OFF);
    }

    private static void moveBad() {
        R.due("parent before MISSING", States::forest, x -> x.move(0, 9, 8, 1), NodeLogFlash.BAD);
        R.due("name before MISSING", States::forest, x -> x.move(8, 0, 1, 1), NodeLogFlash.BAD);
        R.due("toParent before MISSING", States::forest, x -> x.move(8, 1, 13, 1), NodeLogFlash.BAD);
        R.due("toName before MISSING", States::forest, x -> x.move(1, 4, 1, 10), NodeLogFlash.BAD);
        R.due("toName before LOOP", States::forest, x -> x.move(1, 2, 3, 10), NodeLogFlash.BAD);
        R.due("BAD before the same place", States::forest, x -> x.move(1, 10, 1, 10), NodeLogFlash.BAD);
        R.due("BAD before FULL", States::full, x -> x.move(1, 1, 1, 10), NodeLogFlash.BAD);
    }

    private static void moveBehindBad() {
        R.due("MISSING before LOOP, a file that lies in the directory", States::forest,
            x -> x.move(1, 2, 6, 1), NodeLogFlash.MISSING);
        R.due("MISSING before the same place", States::forest, x -> x.move(1, 4, 1, 4), NodeLogFlash.MISSING);
        R.due("MISSING before EXISTS", States::forest, x -> x.move(1, 4, 1, 2), NodeLogFlash.MISSING);
        R.due("MISSING before FULL", States::full, x -> x.move(1, 4, 1, 9), NodeLogFlash.MISSING);
        R.due("MISSING, toParent, before FULL", States::full, x -> x.move(1, 1, 8, 9), NodeLogFlash.MISSING);
        R.due("LOOP before EXISTS, a directory there", States::forest, x -> x.move(1, 2, 3, 1), NodeLogFlash.LOOP);
        R.due("LOOP before EXISTS, a file there", States::forest, x -> x.move(1, 2, 3, 2), NodeLogFlash.LOOP);
        R.due("LOOP before FULL", States::full, x -> x.move(1, 2, 4, 9), NodeLogFlash.LOOP);
        R.due("the same place before EXISTS", States::forest, x -> x.move(1, 2, 1, 2), 3);
        R.due("the same place before FULL", States::full, x -> x.move(1, 1, 1, 1), 2);
        R.due("EXISTS before FULL", States::full, x -> x.move(1, 1, 1, 2), NodeLogFlash.EXISTS);
        R.due("EXISTS before FULL, a directory", States::full, x -> x.move(1, 3, 1, 1), NodeLogFlash.EXISTS);
    }

    private static void remove() {
        R.due("OFF before BAD", States::off, x -> x.remove(13, 0), NodeLogFlash.OFF);
        R.due("OFF before MISSING", States::off, x -> x.remove(1, 9), NodeLogFlash.OFF);
        R.due("OFF before NOT_EMPTY", States::off, x -> x.remove(1, 2), NodeLogFlash.OFF);
        R.due("BAD before MISSING", States::forest, x -> x.remove(8, 0), NodeLogFlash.BAD);
        R.due("BAD before MISSING, a file", States::forest, x -> x.remove(2, 10), NodeLogFlash.BAD);
    }

    private static void write() {
        R.due("OFF before BAD", States::off, x -> x.write(0, -1, 0, 1), NodeLogFlash.OFF);
        R.due("OFF before MISSING", States::off, x -> x.write(3, 0, 1, 1), NodeLogFlash.OFF);
        R.due("OFF before FULL", States::fullAndOff, x -> x.write(2, 0, 1, 1), NodeLogFlash.OFF);
        R.due("BAD, n, before MISSING", States::forest, x -> x.write(8, 0, 7, 1), NodeLogFlash.BAD);
        R.due("BAD, offset, before MISSING", States::forest, x -> x.write(3, -1, 1, 1), NodeLogFlash.BAD);
        R.due("BAD, offset + n, before MISSING", States::forest, x -> x.write(1, 16, 1, 1), NodeLogFlash.BAD);
        R.due("BAD before FULL", States::full, x -> x.write(2, 0, 7, 1), NodeLogFlash.BAD);
        R.due("MISSING before FULL", States::full, x -> x.write(3, 0, 1, 1), NodeLogFlash.MISSING);
    }

    private static void callsThatOnlyLook() {
        R.due("size, OFF before BAD", States::off, x -> x.size(0), NodeLogFlash.OFF);
        R.due("size, OFF before MISSING", States::off, x -> x.size(8), NodeLogFlash.OFF);
        R.due("entry, OFF before BAD", States::off, x -> x.entry(0, 10), NodeLogFlash.OFF);
        R.due("entry, OFF before MISSING", States::off, x -> x.entry(1, 9), NodeLogFlash.OFF);
        R.due("entry, BAD before MISSING", States::forest, x -> x.entry(8, 10), NodeLogFlash.BAD);
        R.due("entry, BAD before MISSING, a file", States::forest, x -> x.entry(2, 0), NodeLogFlash.BAD);
        R.due("kindOf, OFF before 0", States::off, x -> x.kindOf(13), NodeLogFlash.OFF);
        R.due("collect, OFF before 0", States::off, x -> x.collect(), NodeLogFlash.OFF);
    }

    public static void main(String[] args) {
        C.sentence("make: the order of refusals", OrderOfRefusalsTest::make);
        C.sentence("move: the order of refusals, OFF", OrderOfRefusalsTest::moveWithThePowerOff);
        C.sentence("move: the order of refusals, BAD", OrderOfRefusalsTest::moveBad);
        C.sentence("move: the order of refusals behind BAD", OrderOfRefusalsTest::moveBehindBad);
        C.sentence("remove: the order of refusals", OrderOfRefusalsTest::remove);
        C.sentence("write: the order of refusals", OrderOfRefusalsTest::write);
        C.sentence("size, entry, kindOf, collect: the order of refusals", OrderOfRefusalsTest::callsThatOnlyLook);
        C.end();
    }
}
