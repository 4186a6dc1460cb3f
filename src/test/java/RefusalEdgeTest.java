import java.util.ArrayList;
import java.util.List;
import java.util.function.Consumer;
import java.util.function.Supplier;

/**
 * Every call that can be refused, in every kind of state: the exception is the one that the document
 * names first, and nothing has changed after it ("A call that throws changes nothing; of several
 * exceptions the one named first is thrown.").
 */
public final class RefusalEdgeTest {
    private static final Check CHECK = new Check("RefusalEdgeTest");
    private static final String INDEX = "throws.IndexOutOfBoundsException";
    private static final String ARGUMENT = "throws.IllegalArgumentException";
    private static final String STATE = "throws.IllegalStateException";
    private static final int LOWEST = Integer.MIN_VALUE;
    private static final int HIGHEST = Integer.MAX_VALUE;

    /** How an object comes to a state, and what the document's conditions ask of it. */
    private record State(String name, boolean ready, int words, Supplier<SlicedCipher> make) {
    }

    public static void main(String[] args) {
        for (State state : states()) {
            String before = Look.atAll(state.make().get());
            keyIsRefused(state, before);
            sizeIsRefused(state, before);
            roundIsRefused(state, before);
            boxIsRefused(state, before);
            startIsRefused(state, before);
            putIsRefused(state, before);
            cutIsRefused(state, before);
            wordIsRefused(state, before);
            runIsRefused(state, before);
            sealIsRefused(state, before);
        }
        CHECK.end();
    }

    private static List<State> states() {
        List<State> all = new ArrayList<>();
        all.add(new State("new", false, 0, SlicedCipher::new));
        for (int words : new int[] {0, 1, 2, 3, 4, 7, 8, 252, 253, 254, 255, 256}) {
            String tape = " with " + words + " words";
            all.add(new State("never ready" + tape, false, words, () -> Given.tape(Given.told(32), words)));
            all.add(new State("ready" + tape, true, words, () -> Given.tape(Given.ready(32), words)));
        }
        for (int bytes : new int[] {0, 1, 31}) {
            all.add(new State("ready with a key of " + bytes, true, 8, () -> Given.tape(Given.ready(bytes), 8)));
        }
        all.add(new State("key told since", false, 8,
                () -> after(Given.tape(Given.ready(32), 8), x -> x.key(7, 5))));
        all.add(new State("size told since", false, 8,
                () -> after(Given.tape(Given.ready(32), 8), x -> x.size(31))));
        all.add(new State("size told since, within a block", false, 6,
                () -> after(Given.tape(Given.ready(32), 6), x -> x.size(0))));
        all.add(new State("made ready again", true, 8, () -> after(Given.tape(Given.ready(32), 8), x -> {
            x.key(0, 5);
            x.ready();
        })));
        return all;
    }

    private static SlicedCipher after(SlicedCipher x, Consumer<SlicedCipher> deed) {
        deed.accept(x);
        return x;
    }

    /** Promise 2: "Word i (0 .. 7)": IndexOutOfBoundsException. */
    private static void keyIsRefused(State state, String before) {
        for (int i : new int[] {LOWEST, -1, 8, 32, HIGHEST}) {
            refused(state, before, "2: key " + i, INDEX, x -> x.key(i, 1234567));
        }
    }

    /** Promise 3: "IllegalArgumentException when it is not 0 .. 32." */
    private static void sizeIsRefused(State state, String before) {
        for (int bytes : new int[] {LOWEST, -1, 33, 256, HIGHEST}) {
            refused(state, before, "3: size " + bytes, ARGUMENT, x -> x.size(bytes));
        }
    }

    /** Promise 5: "IndexOutOfBoundsException; IllegalStateException when it is not ready." */
    private static void roundIsRefused(State state, String before) {
        for (int wrong : new int[] {LOWEST, -1, 33, HIGHEST}) {
            refused(state, before, "5: round " + wrong, INDEX, x -> x.round(wrong, 0));
            refused(state, before, "5: word 3 of round " + wrong, INDEX, x -> x.round(wrong, 3));
        }
        for (int wrong : new int[] {LOWEST, -1, 4, HIGHEST}) {
            refused(state, before, "5: word " + wrong + " of round 0", INDEX, x -> x.round(0, wrong));
            refused(state, before, "5: word " + wrong + " of round 32", INDEX, x -> x.round(32, wrong));
            refused(state, before, "5: both " + wrong, INDEX, x -> x.round(wrong > 0 ? 33 : wrong, wrong));
        }
        // r and j look into one row of 132 words: these two would fall on words of other rounds.
        refused(state, before, "5: word 5 of round 1", INDEX, x -> x.round(1, 5));
        refused(state, before, "5: word -4 of round 33", INDEX, x -> x.round(33, -4));
        if (!state.ready()) {
            refused(state, before, "5: first word", STATE, x -> x.round(0, 0));
            refused(state, before, "5: last word", STATE, x -> x.round(32, 3));
        }
    }

    /** Promise 6: "IndexOutOfBoundsException (0 .. 7); IllegalArgumentException when v is not 0 .. 15." */
    private static void boxIsRefused(State state, String before) {
        for (boolean back : new boolean[] {false, true}) {
            for (int which : new int[] {LOWEST, -1, 8, HIGHEST}) {
                for (int v : new int[] {LOWEST, -1, 0, 15, 16, HIGHEST}) {
                    refused(state, before, "6: box " + which + " of " + v, INDEX, x -> x.box(which, v, back));
                }
            }
            for (int v : new int[] {LOWEST, -1, 16, HIGHEST}) {
                refused(state, before, "6: box 0 of " + v, ARGUMENT, x -> x.box(0, v, back));
                refused(state, before, "6: box 7 of " + v, ARGUMENT, x -> x.box(7, v, back));
            }
        }
    }

    /** Promise 7: "Word j (0 .. 3)": IndexOutOfBoundsException. */
    private static void startIsRefused(State state, String before) {
        for (int j : new int[] {LOWEST, -1, 4, HIGHEST}) {
            refused(state, before, "7: start " + j, INDEX, x -> x.start(j, 1234567));
        }
    }

    /** Promise 8: "IllegalStateException when there would be more than 256." */
    private static void putIsRefused(State state, String before) {
        if (state.words() + 4 > 256) {
            refused(state, before, "8: put", STATE, x -> x.put(11, 12, 13, 14));
        }
    }

    /** Promise 9: "IllegalArgumentException when it has less, or n is below 0." */
    private static void cutIsRefused(State state, String before) {
        for (int n : new int[] {LOWEST, -1, state.words() + 1, state.words() + 4, 257, HIGHEST}) {
            refused(state, before, "9: cut " + n, ARGUMENT, x -> x.cut(n));
        }
    }

    /** Promise 10: IndexOutOfBoundsException, "there is no such word". */
    private static void wordIsRefused(State state, String before) {
        for (int i : new int[] {LOWEST, -1, state.words(), state.words() + 1, 256, HIGHEST}) {
            refused(state, before, "10: word " + i, INDEX, x -> x.word(i));
        }
    }

    /** Promise 11: "IllegalArgumentException when it is not 0 .. 2; IllegalStateException." */
    private static void runIsRefused(State state, String before) {
        for (boolean back : new boolean[] {false, true}) {
            for (int mode : new int[] {LOWEST, -1, 3, HIGHEST}) {
                refused(state, before, "11: run " + mode, ARGUMENT, x -> x.run(mode, back));
            }
            for (int mode = 0; mode <= 2 && (!state.ready() || state.words() % 4 != 0); mode++) {
                int known = mode;
                refused(state, before, "11: run " + mode, STATE, x -> x.run(known, back));
            }
        }
    }

    /** Promise 12: "IndexOutOfBoundsException; IllegalStateException." */
    private static void sealIsRefused(State state, String before) {
        for (int j : new int[] {LOWEST, -1, 4, HIGHEST}) {
            refused(state, before, "12: seal " + j, INDEX, x -> x.seal(j));
        }
        for (int j = 0; j <= 3 && (!state.ready() || state.words() % 4 != 0); j++) {
            int known = j;
            refused(state, before, "12: seal " + j, STATE, x -> x.seal(known));
        }
    }

    private static void refused(State state, String before, String what, String due, Consumer<SlicedCipher> call) {
        SlicedCipher x = state.make().get();
        String where = what + ", " + state.name();
        CHECK.dueText(where, outcome(x, call), due);
        CHECK.dueText(where + ", asked again", outcome(x, call), due);
        CHECK.dueText(where + ", nothing has changed", Look.atAll(x), before);
    }

    private static String outcome(SlicedCipher x, Consumer<SlicedCipher> call) {
        return Check.outcome(() -> {
            call.accept(x);
            return 0;
        });
    }
}
