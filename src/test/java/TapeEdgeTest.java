/** Promises 8 to 10, and "THE TAPE has up to 256 words": the empty tape, the full one, and one cut anywhere. */
public final class TapeEdgeTest {
    private static final Check CHECK = new Check("TapeEdgeTest");
    private static final String INDEX = "throws.IndexOutOfBoundsException";
    private static final String ARGUMENT = "throws.IllegalArgumentException";
    private static final String STATE = "throws.IllegalStateException";

    public static void main(String[] args) {
        putAnswersHowManyUpToTheFullTape();
        putIsAllowedUpTo252AndNoFurther();
        putOnAFullTapeAfterACut();
        putBehindATapeThatEndsWithinABlock();
        putTakesAnyWord();
        putNeedsNoReadyKey();
        cutOfTheEmptyTape();
        cutOfTheFullTape();
        cutAtEveryLength();
        cutWordsDoNotComeBack();
        cutLeavesTheRest();
        wordOfTheEmptyTape();
        wordOfTheFullTape();
        wordAtEveryLength();
        CHECK.end();
    }

    /** 8: "Four words come behind the tape: how many it has." From none to all 256. */
    private static void putAnswersHowManyUpToTheFullTape() {
        SlicedCipher x = new SlicedCipher();
        for (int words = 4; words <= 256; words += 4) {
            CHECK.due("8: put", x.put(words, words + 1, words + 2, words + 3), words);
        }
        for (int i = 0; i < 256; i++) {
            CHECK.due("8: word " + i + " of the full tape", x.word(i), 4 + i);
        }
    }

    /** 8: "IllegalStateException when there would be more than 256." */
    private static void putIsAllowedUpTo252AndNoFurther() {
        for (int words = 245; words <= 256; words++) {
            SlicedCipher x = Given.tape(new SlicedCipher(), words);
            String due = words <= 252 ? Integer.toString(words + 4) : STATE;
            CHECK.dueText("8: put behind " + words, Check.outcome(() -> x.put(21, 22, 23, 24)), due);
            SlicedCipher same = Given.tape(new SlicedCipher(), words);
            String tape = Look.tape(same).replace(" " + INDEX, "");
            String more = words <= 252 ? " 21 22 23 24" : "";
            CHECK.dueText("8: tape of " + words + " and put", Look.tape(x), tape + more + " " + INDEX);
        }
    }

    private static void putOnAFullTapeAfterACut() {
        SlicedCipher x = Given.tape(new SlicedCipher(), 256);
        CHECK.dueText("8: put on the full tape", Check.outcome(() -> x.put(1, 2, 3, 4)), STATE);
        x.cut(252);
        CHECK.due("8: put after a cut of one block", x.put(31, 32, 33, 34), 256);
        CHECK.due("8: word 251", x.word(251), Given.tapeWord(251));
        for (int j = 0; j < 4; j++) {
            CHECK.due("8: the last block is new", x.word(252 + j), 31 + j);
        }
        CHECK.dueText("8: put on the tape full again", Check.outcome(() -> x.put(1, 2, 3, 4)), STATE);
        x.cut(0);
        CHECK.due("8: put after all was cut", x.put(41, 42, 43, 44), 4);
        CHECK.dueText("8: the tape is new", Look.tape(x), " 41 42 43 44 " + INDEX);
    }

    /** Only more than 256 words are refused: four words also come behind a block that was cut. */
    private static void putBehindATapeThatEndsWithinABlock() {
        for (int words = 1; words <= 3; words++) {
            SlicedCipher x = Given.tape(new SlicedCipher(), words);
            CHECK.due("8: put behind " + words, x.put(51, 52, 53, 54), words + 4);
            CHECK.due("8: the word before", x.word(words - 1), Given.tapeWord(words - 1));
            for (int j = 0; j < 4; j++) {
                CHECK.due("8: word " + j + " behind " + words, x.word(words + j), 51 + j);
            }
        }
    }

    private static void putTakesAnyWord() {
        int[] ends = {Integer.MIN_VALUE, -1, 0, 1, Integer.MAX_VALUE};
        for (int v : ends) {
            SlicedCipher x = new SlicedCipher();
            CHECK.due("8: put of " + v, x.put(v, ~v, v, ~v), 4);
            CHECK.dueText("10: words of " + v, Look.tape(x), " " + v + " " + ~v + " " + v + " " + ~v + " " + INDEX);
        }
    }

    private static void putNeedsNoReadyKey() {
        SlicedCipher x = Given.tape(Given.ready(32), 4);
        String rounds = Look.rounds(x);
        x.put(1, 2, 3, 4);
        x.cut(7);
        CHECK.dueText("8, 9: put and cut leave the key ready", Look.rounds(x), rounds);
    }

    /** 9: "IllegalArgumentException when it has less, or n is below 0." Nothing is less than one word. */
    private static void cutOfTheEmptyTape() {
        SlicedCipher x = new SlicedCipher();
        CHECK.due("9: cut 0 of the empty tape", x.cut(0), 0);
        CHECK.dueText("9: cut 1 of the empty tape", Check.outcome(() -> x.cut(1)), ARGUMENT);
        CHECK.dueText("9: cut -1 of the empty tape", Check.outcome(() -> x.cut(-1)), ARGUMENT);
        CHECK.dueText("9: the tape is empty", Look.tape(x), " " + INDEX);
    }

    private static void cutOfTheFullTape() {
        SlicedCipher x = Given.tape(new SlicedCipher(), 256);
        CHECK.dueText("9: cut 257 of the full tape", Check.outcome(() -> x.cut(257)), ARGUMENT);
        CHECK.dueText("9: cut -1 of the full tape", Check.outcome(() -> x.cut(-1)), ARGUMENT);
        CHECK.due("9: cut 256 of the full tape", x.cut(256), 256);
        CHECK.due("9: its last word", x.word(255), Given.tapeWord(255));
        CHECK.due("9: cut 255 of the full tape", x.cut(255), 255);
        CHECK.dueText("9: the last word is cut", Check.outcome(() -> x.word(255)), INDEX);
        CHECK.due("9: cut 0", x.cut(0), 0);
        CHECK.dueText("9: the tape is empty", Look.tape(x), " " + INDEX);
    }

    /** 9: "The tape is cut behind its first n words: n." All that it has, one more, and one less. */
    private static void cutAtEveryLength() {
        for (int words = 0; words <= 256; words++) {
            SlicedCipher x = Given.tape(new SlicedCipher(), words);
            int more = words + 1;
            CHECK.dueText("9: cut " + more + " of " + words, Check.outcome(() -> x.cut(more)), ARGUMENT);
            CHECK.due("9: cut all of " + words, x.cut(words), words);
            if (words > 0) {
                CHECK.due("9: cut one of " + words, x.cut(words - 1), words - 1);
                CHECK.dueText("9: then all is more", Check.outcome(() -> x.cut(more - 1)), ARGUMENT);
            }
        }
    }

    private static void cutWordsDoNotComeBack() {
        SlicedCipher x = Given.tape(new SlicedCipher(), 8);
        x.cut(2);
        CHECK.dueText("9: cut 3 after cut 2", Check.outcome(() -> x.cut(3)), ARGUMENT);
        CHECK.dueText("9: cut 8 after cut 2", Check.outcome(() -> x.cut(8)), ARGUMENT);
        CHECK.dueText("9: two words are left", Look.tape(x),
                " " + Given.tapeWord(0) + " " + Given.tapeWord(1) + " " + INDEX);
    }

    private static void cutLeavesTheRest() {
        SlicedCipher x = Given.tape(Given.ready(32), 256);
        x.cut(0);
        CHECK.dueText("9: key and start are as told", Look.atAll(x), Look.atAll(Given.ready(32)));
    }

    /** 10: "Word i of the tape. IndexOutOfBoundsException." */
    private static void wordOfTheEmptyTape() {
        SlicedCipher x = new SlicedCipher();
        CHECK.dueText("10: word 0 of the empty tape", Check.outcome(() -> x.word(0)), INDEX);
        CHECK.dueText("10: word -1 of the empty tape", Check.outcome(() -> x.word(-1)), INDEX);
    }

    private static void wordOfTheFullTape() {
        SlicedCipher x = Given.tape(new SlicedCipher(), 256);
        CHECK.due("10: word 0 of the full tape", x.word(0), Given.tapeWord(0));
        CHECK.due("10: word 255 of the full tape", x.word(255), Given.tapeWord(255));
        CHECK.dueText("10: word 256 of the full tape", Check.outcome(() -> x.word(256)), INDEX);
        CHECK.dueText("10: word -1 of the full tape", Check.outcome(() -> x.word(-1)), INDEX);
    }

    private static void wordAtEveryLength() {
        for (int words = 1; words <= 256; words++) {
            SlicedCipher x = Given.tape(new SlicedCipher(), words);
            int behind = words;
            CHECK.due("10: last word of " + words, x.word(words - 1), Given.tapeWord(words - 1));
            CHECK.dueText("10: behind the last of " + words, Check.outcome(() -> x.word(behind)), INDEX);
        }
    }
}
