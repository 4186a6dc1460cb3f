/** Promises 6, 7, 11 and 12, with the terms of boxes, blocks, modes, counter and seal, at their edges. */
public final class CipherEdgeTest {
    private static final Check CHECK = new Check("CipherEdgeTest");
    private static final String INDEX = "throws.IndexOutOfBoundsException";
    private static final String STATE = "throws.IllegalStateException";
    private static final int LOWEST = Integer.MIN_VALUE;
    private static final int HIGHEST = Integer.MAX_VALUE;
    private static final int[][] ROUNDS = rounds();

    public static void main(String[] args) {
        boxesAtTheirEnds();
        everyBoxBackUndoesIt();
        startTakesWords0To3();
        startTakesAnyWord();
        startLeavesTheRest();
        everyPlaceOfABlock();
        backUndoesEveryPlace();
        runAnswersHowManyBlocks();
        aloneAtEveryLength();
        chainedAtEveryLength();
        chainedBackAtEveryLength();
        countedAtEveryLength();
        counterCarriesAndWrapsAround();
        counterCarriesAnywhereOnTheTape();
        runLeavesTheRest();
        runAfterABlockWasMadeWhole();
        sealWithoutABlock();
        sealAtEveryLength();
        sealStartsWith0();
        sealLeavesTheRest();
        answersLeaveTheRest();
        lastOfAllCalls();
        CHECK.end();
    }

    /** 6: boxes "(0 .. 7)" of numbers "0 .. 15", as the document's rows begin and end; nothing need be ready. */
    private static void boxesAtTheirEnds() {
        int[] of0 = {3, 15, 8, 0, 1, 15, 7, 1};
        int[] of15 = {12, 4, 2, 14, 13, 1, 0, 6};
        int[] to0 = {13, 5, 12, 0, 5, 8, 15, 3};
        int[] to15 = {2, 0, 7, 1, 1, 0, 11, 2};
        SlicedCipher x = new SlicedCipher();
        for (int which = 0; which <= 7; which++) {
            CHECK.due("6: box " + which + " of 0", x.box(which, 0, false), of0[which]);
            CHECK.due("6: box " + which + " of 15", x.box(which, 15, false), of15[which]);
            CHECK.due("6: box " + which + " back of 0", x.box(which, 0, true), to0[which]);
            CHECK.due("6: box " + which + " back of 15", x.box(which, 15, true), to15[which]);
        }
    }

    private static void everyBoxBackUndoesIt() {
        SlicedCipher x = new SlicedCipher();
        for (int n = 0; n < 128; n++) {
            int made = x.box(n / 16, n % 16, false);
            CHECK.due("6: box " + n / 16 + " of " + n % 16, made, Model.BOX[n / 16][n % 16]);
            CHECK.due("6: box " + n / 16 + " back of " + made, x.box(n / 16, made, true), n % 16);
        }
    }

    /** 7: "Word j (0 .. 3) of the START is v." Each is one of the counter's words, lowest first. */
    private static void startTakesWords0To3() {
        for (int j = 0; j < 4; j++) {
            SlicedCipher x = Given.ready(32);
            x.start(j, 71);
            int[] due = {Given.startWord(0), Given.startWord(1), Given.startWord(2), Given.startWord(3)};
            due[j] = 71;
            Given.block(x, 0, 0, 0, 0).run(2, false);
            sameBlock("7: start " + j, x, 0, enciphered(due));
        }
    }

    private static void startTakesAnyWord() {
        for (int v : new int[] {LOWEST, -1, 0, 1, HIGHEST}) {
            SlicedCipher x = Given.start(Given.ready(32), v, ~v, v, ~v);
            Given.block(x, 5, 6, 7, 8).run(1, false);
            sameBlock("7: start of " + v, x, 0, enciphered(5 ^ v, 6 ^ ~v, 7 ^ v, 8 ^ ~v));
        }
    }

    private static void startLeavesTheRest() {
        for (int words : new int[] {0, 3, 8, 256}) {
            SlicedCipher x = Given.tape(Given.ready(32), words);
            x.start(3, 0);
            x.start(3, Given.startWord(3));
            CHECK.dueText("7: the rest, with " + words + " words", Look.atAll(x),
                    Look.atAll(Given.tape(Given.ready(32), words)));
        }
    }

    /**
     * Terms: "for each of the 32 places", and the turns and shifts of the mixing, which take bits over a
     * word's ends; "for r from 0 to 31", "but for r = 31", "In the end it is xored with round key 32".
     */
    private static void everyPlaceOfABlock() {
        for (int n = 0; n < 130; n++) {
            SlicedCipher x = Given.block(Given.ready(32), edgeBlock(n));
            x.run(0, false);
            sameBlock("11: block " + n, x, 0, enciphered(edgeBlock(n)));
        }
    }

    /** Terms: "BACK is what undoes that." */
    private static void backUndoesEveryPlace() {
        for (int n = 0; n < 130; n++) {
            SlicedCipher x = Given.block(Given.ready(32), enciphered(edgeBlock(n)));
            x.run(0, true);
            sameBlock("11: back to block " + n, x, 0, edgeBlock(n));
        }
    }

    /** 11: "The whole tape is enciphered in a MODE, or back: how many blocks." None, all 64, and all between. */
    private static void runAnswersHowManyBlocks() {
        for (int blocks = 0; blocks <= 64; blocks++) {
            for (int mode = 0; mode <= 2; mode++) {
                SlicedCipher x = Given.tape(Given.ready(32), 4 * blocks);
                CHECK.due("11: run " + mode, x.run(mode, false), blocks);
                CHECK.due("11: run back " + mode, x.run(mode, true), blocks);
                CHECK.dueText("11: tape after run " + mode, Look.tape(x),
                        Look.tape(Given.tape(new SlicedCipher(), 4 * blocks)));
            }
        }
    }

    /** Terms: "0 ALONE: each block is enciphered (or back)." */
    private static void aloneAtEveryLength() {
        for (int blocks = 1; blocks <= 64; blocks++) {
            SlicedCipher x = Given.tape(Given.ready(32), 4 * blocks);
            x.run(0, false);
            for (int i = 0; i < blocks; i++) {
                sameBlock("11: alone " + i + " of " + blocks, x, i, enciphered(tapeBlock(i)));
            }
        }
    }

    /** Terms: "each block is xored with the one before as it is enciphered (the first one with the START)". */
    private static void chainedAtEveryLength() {
        for (int blocks = 1; blocks <= 64; blocks++) {
            SlicedCipher x = Given.tape(Given.ready(32), 4 * blocks);
            x.run(1, false);
            int[] before = startBlock();
            for (int i = 0; i < blocks; i++) {
                before = enciphered(Model.xored(tapeBlock(i), before));
                sameBlock("11: chained " + i + " of " + blocks, x, i, before);
            }
        }
    }

    /** Terms: "back likewise". */
    private static void chainedBackAtEveryLength() {
        for (int blocks = 1; blocks <= 64; blocks++) {
            SlicedCipher x = Given.ready(32);
            int[] before = startBlock();
            for (int i = 0; i < blocks; i++) {
                before = enciphered(Model.xored(tapeBlock(i), before));
                Given.block(x, before);
            }
            x.run(1, true);
            for (int i = 0; i < blocks; i++) {
                sameBlock("11: chained back " + i + " of " + blocks, x, i, tapeBlock(i));
            }
        }
    }

    /** Terms: "the START for the first one, and one more for each next; back is the same". */
    private static void countedAtEveryLength() {
        for (int blocks = 1; blocks <= 64; blocks++) {
            SlicedCipher x = Given.tape(Given.ready(32), 4 * blocks);
            SlicedCipher y = Given.tape(Given.ready(32), 4 * blocks);
            x.run(2, false);
            y.run(2, true);
            for (int i = 0; i < blocks; i++) {
                int[] count = startBlock();
                count[0] += i;
                int[] due = Model.xored(tapeBlock(i), enciphered(count));
                sameBlock("11: counted " + i + " of " + blocks, x, i, due);
                sameBlock("11: counted back " + i + " of " + blocks, y, i, due);
            }
        }
    }

    /** Terms: "one more (as a number of 128 bits, a the lowest word)": each carry, none, and the highest number. */
    private static void counterCarriesAndWrapsAround() {
        countsTo("no carry", new int[] {-2, -1, -1, -1}, new int[] {-1, -1, -1, -1});
        countsTo("no carry at the sign", new int[] {HIGHEST, 6, 7, 8}, new int[] {LOWEST, 6, 7, 8});
        countsTo("a carries", new int[] {-1, 6, 7, 8}, new int[] {0, 7, 7, 8});
        countsTo("a carries into the sign", new int[] {-1, HIGHEST, 7, 8}, new int[] {0, LOWEST, 7, 8});
        countsTo("a and b carry", new int[] {-1, -1, 7, 8}, new int[] {0, 0, 8, 8});
        countsTo("a, b and c carry", new int[] {-1, -1, -1, 8}, new int[] {0, 0, 0, 9});
        countsTo("a, b and c carry into the sign", new int[] {-1, -1, -1, HIGHEST}, new int[] {0, 0, 0, LOWEST});
        countsTo("a carries alone", new int[] {-1, 6, -1, -1}, new int[] {0, 7, -1, -1});
        countsTo("only a is counted", new int[] {0, -1, -1, -1}, new int[] {1, -1, -1, -1});
        countsTo("from the highest to 0", new int[] {-1, -1, -1, -1}, new int[] {0, 0, 0, 0});
        countsTo("from 0", new int[] {0, 0, 0, 0}, new int[] {1, 0, 0, 0});
    }

    private static void countsTo(String what, int[] first, int[] second) {
        for (boolean back : new boolean[] {false, true}) {
            SlicedCipher x = Given.start(Given.ready(32), first);
            Given.tape(x, 8).run(2, back);
            sameBlock("11: " + what + ", first", x, 0, Model.xored(tapeBlock(0), enciphered(first)));
            sameBlock("11: " + what + ", second", x, 1, Model.xored(tapeBlock(1), enciphered(second)));
        }
    }

    /** The carry comes behind each of 63 blocks in turn, and the count goes on behind it. */
    private static void counterCarriesAnywhereOnTheTape() {
        for (int at = 1; at <= 63; at++) {
            for (int high : new int[] {-1, HIGHEST}) {
                SlicedCipher x = Given.start(Given.ready(32), -at, -1, -1, high);
                Given.tape(x, 256).run(2, false);
                for (int i = 0; i < 64; i++) {
                    int[] count = i < at ? new int[] {i - at, -1, -1, high} : new int[] {i - at, 0, 0, high + 1};
                    sameBlock("11: carry behind block " + at + ", block " + i, x, i,
                            Model.xored(tapeBlock(i), enciphered(count)));
                }
            }
        }
    }

    /** Runs change the tape alone: key, round keys and start are as before, though the counter went over its end. */
    private static void runLeavesTheRest() {
        for (int words : new int[] {0, 4, 256}) {
            for (int mode = 0; mode <= 2; mode++) {
                SlicedCipher x = Given.start(Given.tape(Given.ready(32), words), -1, -1, -1, -1);
                SlicedCipher y = Given.start(Given.tape(Given.ready(32), words), -1, -1, -1, -1);
                x.run(mode, false);
                x.run(mode, true);
                CHECK.dueText("11: run " + mode + " and back of " + words, Look.atAll(x), Look.atAll(y));
            }
        }
    }

    /** Terms: "or the tape ends within a block": refused, and allowed again when it no longer does. */
    private static void runAfterABlockWasMadeWhole() {
        for (int words = 5; words <= 7; words++) {
            for (int mode = 0; mode <= 2; mode++) {
                int known = mode;
                SlicedCipher x = Given.tape(Given.ready(32), words);
                CHECK.dueText("11: run of " + words, Check.outcome(() -> x.run(known, false)), STATE);
                CHECK.dueText("12: seal of " + words, Check.outcome(() -> x.seal(0)), STATE);
                x.put(1, 2, 3, 4);
                CHECK.dueText("11: run of " + words + " and 4", Check.outcome(() -> x.run(known, true)), STATE);
                CHECK.dueText("12: seal of " + words + " and 4", Check.outcome(() -> x.seal(3)), STATE);
                x.cut(4);
                CHECK.due("11: run of the whole block", x.run(mode, false), 1);
                SlicedCipher y = Given.tape(Given.ready(32), 4);
                y.run(mode, false);
                CHECK.dueText("11: tape of the whole block", Look.tape(x), Look.tape(y));
                CHECK.due("12: seal of the whole block", x.seal(0), y.seal(0));
            }
        }
    }

    /** Terms: "0 without a block". */
    private static void sealWithoutABlock() {
        for (int bytes : new int[] {0, 32}) {
            SlicedCipher x = Given.ready(bytes);
            for (int j = 0; j < 4; j++) {
                CHECK.due("12: word " + j + " without a block", x.seal(j), 0);
            }
            Given.tape(x, 8);
            x.run(1, false);
            x.seal(0);
            x.cut(0);
            for (int j = 0; j < 4; j++) {
                CHECK.due("12: word " + j + " when all was cut", x.seal(j), 0);
            }
        }
    }

    /** Terms: "what the last block becomes CHAINED with a start of 0". One block, all 64, and all between. */
    private static void sealAtEveryLength() {
        int[] due = new int[4];
        for (int blocks = 1; blocks <= 64; blocks++) {
            due = enciphered(Model.xored(tapeBlock(blocks - 1), due));
            SlicedCipher x = Given.tape(Given.ready(32), 4 * blocks);
            for (int j = 0; j < 4; j++) {
                CHECK.due("12: word " + j + " of " + blocks, x.seal(j), due[j]);
            }
        }
    }

    /** The start that was told is no matter to the seal. */
    private static void sealStartsWith0() {
        for (int v : new int[] {LOWEST, -1, 0, 1, HIGHEST}) {
            SlicedCipher x = Given.start(Given.tape(Given.ready(32), 4), v, v, v, v);
            int[] due = enciphered(tapeBlock(0));
            for (int j = 0; j < 4; j++) {
                CHECK.due("12: word " + j + ", start " + v, x.seal(j), due[j]);
            }
        }
    }

    /** Terms: "the tape stays". So do the start and the round keys. */
    private static void sealLeavesTheRest() {
        for (int blocks : new int[] {0, 1, 2, 64}) {
            SlicedCipher x = Given.tape(Given.ready(32), 4 * blocks);
            for (int j = 0; j < 4; j++) {
                x.seal(j);
            }
            allIsAsGiven("12: after the seal of " + blocks, x, blocks);
        }
    }

    /** Calls that answer alone change nothing: round, box and word at their ends. */
    private static void answersLeaveTheRest() {
        for (int blocks : new int[] {1, 2, 64}) {
            SlicedCipher x = Given.tape(Given.ready(32), 4 * blocks);
            x.round(0, 0);
            x.round(32, 3);
            x.box(0, 0, false);
            x.box(7, 15, true);
            x.word(0);
            x.word(4 * blocks - 1);
            allIsAsGiven("5, 6, 10: after answers, with " + blocks, x, blocks);
        }
    }

    /** Looked at by what is due, not by another object, which the looking could change alike. */
    private static void allIsAsGiven(String what, SlicedCipher x, int blocks) {
        x.run(2, false);
        for (int i = 0; i < blocks; i++) {
            int[] count = startBlock();
            count[0] += i;
            sameBlock(what + ", counted", x, i, Model.xored(tapeBlock(i), enciphered(count)));
        }
        CHECK.dueText(what + ", behind the tape", Check.outcome(() -> x.word(4 * blocks)), INDEX);
    }

    /** "An object is used for at most 512 calls": the last of them still answers. */
    private static void lastOfAllCalls() {
        SlicedCipher x = Given.tape(Given.ready(32), 256);
        // 8 words of the key, its size, ready, 4 words of the start, 64 blocks and a cut.
        int calls = 79;
        while (calls < 508) {
            int mode = calls / 3 % 3;
            x.run(mode, false);
            x.run(mode, true);
            CHECK.due("calls", x.word(255), Given.tapeWord(255));
            calls += 3;
        }
        while (calls < 511) {
            x.ready();
            calls++;
        }
        CHECK.due("the 512th call", x.word(0), Given.tapeWord(0));
    }

    /** All 0, all ones, and each of the 128 blocks with a single bit. */
    private static int[] edgeBlock(int n) {
        int[] block = new int[4];
        if (n == 128) {
            return new int[] {-1, -1, -1, -1};
        }
        if (n < 128) {
            block[n / 32] = 1 << (n % 32);
        }
        return block;
    }

    private static int[] startBlock() {
        return new int[] {Given.startWord(0), Given.startWord(1), Given.startWord(2), Given.startWord(3)};
    }

    private static int[] tapeBlock(int i) {
        return new int[] {Given.tapeWord(4 * i), Given.tapeWord(4 * i + 1), Given.tapeWord(4 * i + 2),
            Given.tapeWord(4 * i + 3)};
    }

    private static int[][] rounds() {
        int[][] rounds = new int[33][4];
        SlicedCipher x = Given.ready(32);
        for (int n = 0; n < 132; n++) {
            rounds[n / 4][n % 4] = x.round(n / 4, n % 4);
        }
        return rounds;
    }

    /** The document's steps one by one, with the round keys that the program tells. */
    private static int[] enciphered(int... block) {
        int[] made = block.clone();
        for (int r = 0; r <= 31; r++) {
            made = Model.boxed(Model.xored(made, ROUNDS[r]), r % 8, false);
            if (r != 31) {
                Model.mixed(made);
            }
        }
        return Model.xored(made, ROUNDS[32]);
    }

    private static void sameBlock(String what, SlicedCipher x, int i, int[] due) {
        for (int j = 0; j < 4; j++) {
            CHECK.due(what + ", word " + j, x.word(4 * i + j), due[j]);
        }
    }
}
