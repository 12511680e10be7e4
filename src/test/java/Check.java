/** What the tests share: counting wrong answers, and small helpers that know the document's layout. */
final class Check {
    private int wrong = 0;

    void due(String call, long got, long want) {
        if (got != want) {
            wrong++;
            System.out.println(call + " answered " + got + ", due is " + want);
        }
    }

    void due(String call, boolean got, boolean want) {
        due(call, got ? 1 : 0, want ? 1 : 0);
    }

    /** Holds the words from a place on against those of a node, whose CHECK is worked out here. */
    void dueNode(String what, NodeLogFlash x, int place, int... wordsBeforeCheck) {
        int c = 7;
        for (int i = 0; i < wordsBeforeCheck.length; i++) {
            due(what + ", word " + i, x.peek(place + i), wordsBeforeCheck[i]);
            c = 31 * c + wordsBeforeCheck[i];
        }
        due(what + ", check", x.peek(place + wordsBeforeCheck.length), 1 + (c & 0x3FFFFFFF));
    }

    /** Runs the test of one sentence of the document and says when that sentence does not hold. */
    void sentence(String sentence, Runnable test) {
        int before = wrong;
        try {
            test.run();
        } catch (RuntimeException failed) {
            // The other sentences are to be tested all the same.
            wrong++;
            System.out.println(failed);
        }
        if (wrong != before) {
            System.out.println("does not hold: " + sentence);
        }
    }

    /** Holds all words against those that stood there before, from one place up to another. */
    void dueWords(String what, NodeLogFlash x, int[] before, int from, int to) {
        for (int p = from; p < to; p++) {
            due(what + ", peek(" + p + ")", x.peek(p), before[p]);
        }
    }

    int wrong() {
        return wrong;
    }

    void add(Check other) {
        wrong += other.wrong;
    }

    /** Ends the test; its exit code is 1 when an answer was wrong. */
    void end() {
        System.out.println(wrong == 0 ? "all answers are as due" : wrong + " answers are not as due");
        if (wrong != 0) {
            System.exit(1);
        }
    }

    static NodeLogFlash mounted() {
        NodeLogFlash x = new NodeLogFlash();
        x.mount();
        return x;
    }

    /** Turns the power off by a call whose first operation does not happen. */
    static void cutPower(NodeLogFlash x) {
        x.arm(0);
        for (int name = 1; name <= 9 && x.kindOf(1) != NodeLogFlash.OFF; name++) {
            x.make(1, name, false);
        }
        if (x.kindOf(1) != NodeLogFlash.OFF) {
            throw new IllegalStateException("the power is still on");
        }
    }

    /** Files 2 .. 6 at (1, 1) .. (1, 5). Blocks 0 .. 4 are full, block 0 has 10 dead words; block 5 is empty. */
    static NodeLogFlash fiveFullBlocks() {
        NodeLogFlash x = mounted();
        for (int file = 2; file <= 5; file++) {
            x.make(1, file - 1, false);
            x.write(file, 0, 6, 100 * file);
            x.write(file, 6, 4, 100 * file + 50);
        }
        x.write(2, 0, 6, 1000);
        x.make(1, 5, false);
        x.write(6, 0, 4, 600);
        return x;
    }

    /** The same, but block 5 has the HEAD of a link, left by a collection that was cut. */
    static NodeLogFlash noEmptyBlock() {
        NodeLogFlash x = fiveFullBlocks();
        x.arm(1);
        if (x.collect() != NodeLogFlash.CUT || x.mount() != 14) {
            throw new IllegalStateException("the collection was not cut");
        }
        return x;
    }

    static int[] words(NodeLogFlash x) {
        int[] words = new int[144];
        for (int p = 0; p < 144; p++) {
            words[p] = x.peek(p);
        }
        return words;
    }
}
