import java.util.Arrays;

/** Promises 1 to 5, with "THE KEY" and "ROUND KEY" of the terms: the key of no bytes, of all 32, and what is ready. */
public final class KeyEdgeTest {
    private static final Check CHECK = new Check("KeyEdgeTest");
    private static final String INDEX = "throws.IndexOutOfBoundsException";
    private static final String ARGUMENT = "throws.IllegalArgumentException";
    private static final String STATE = "throws.IllegalStateException";
    private static final int LOWEST = Integer.MIN_VALUE;
    private static final int HIGHEST = Integer.MAX_VALUE;

    public static void main(String[] args) {
        newKeyWordsAre0();
        newStartWordsAre0();
        newKeyHasNoBytes();
        newTapeIsEmpty();
        newObjectIsNotReady();
        keyTakesWords0To7();
        keyTakesAnyWord();
        sizeTakes0To32();
        keyOfNoBytes();
        keyOfAllBytes();
        lastByteCountsAndNextDoesNot();
        byte1AndBytes0StandBehind();
        smallerSizeForgetsNoByte();
        readyWithNothingTold();
        readyOnlySinceTheKeyWasTold();
        readyTakesTheKeyAsToldNow();
        readyLeavesTapeAndStart();
        roundTakes0To32AndWords0To3();
        roundNeedsNoWholeBlocks();
        firstAndLastOfTheSpreadKey();
        boxOfARoundKeyWrapsAround();
        CHECK.end();
    }

    /** 1: "The key's words and the start's are 0". */
    private static void newKeyWordsAre0() {
        for (int i = 0; i < 8; i++) {
            SlicedCipher x = new SlicedCipher();
            SlicedCipher told = new SlicedCipher();
            for (int other = 0; other < 8; other++) {
                told.key(other, other == i ? 0 : Given.keyWord(other));
                if (other != i) {
                    x.key(other, Given.keyWord(other));
                }
            }
            sameWhenReady("1: word " + i + " of a new key", x, told, 32);
        }
    }

    private static void newStartWordsAre0() {
        for (int mode = 1; mode <= 2; mode++) {
            SlicedCipher x = new SlicedCipher();
            SlicedCipher told = Given.start(new SlicedCipher(), 0, 0, 0, 0);
            x.ready();
            told.ready();
            Given.tape(x, 8).run(mode, false);
            Given.tape(told, 8).run(mode, false);
            CHECK.dueText("1: a new start, mode " + mode, Look.tape(x), Look.tape(told));
        }
    }

    /** 1: "no bytes count". */
    private static void newKeyHasNoBytes() {
        SlicedCipher x = new SlicedCipher();
        SlicedCipher told = new SlicedCipher();
        for (int i = 0; i < 8; i++) {
            x.key(i, -1);
        }
        told.size(0);
        x.ready();
        told.ready();
        CHECK.dueText("1: no bytes of a new key count", Look.rounds(x), Look.rounds(told));
    }

    /** 1: "an empty tape". */
    private static void newTapeIsEmpty() {
        SlicedCipher x = new SlicedCipher();
        CHECK.dueText("1: word 0 of a new tape", Check.outcome(() -> x.word(0)), INDEX);
        CHECK.dueText("1: cut 1 of a new tape", Check.outcome(() -> x.cut(1)), ARGUMENT);
        CHECK.due("1: put on a new tape", x.put(1, 2, 3, 4), 4);
    }

    /** 1: "nothing is ready"; "the key was not made ready since it was told (or ever)". */
    private static void newObjectIsNotReady() {
        SlicedCipher x = new SlicedCipher();
        notReady("1: new", x);
        Given.tape(x, 8);
        notReady("1: new, with a tape", x);
        Given.start(x, 1, 2, 3, 4);
        notReady("1: new, with a start", x);
    }

    /** 2: "Word i (0 .. 7) of the key is v." */
    private static void keyTakesWords0To7() {
        for (int i = -1; i <= 8; i++) {
            int at = i;
            SlicedCipher x = Given.told(32);
            String due = i >= 0 && i <= 7 ? "0" : INDEX;
            CHECK.dueText("2: key " + i, deed(() -> x.key(at, 77)), due);
            int[] words = toldWords();
            if (i >= 0 && i <= 7) {
                words[i] = 77;
            }
            x.ready();
            CHECK.dueText("2: round keys after key " + i, Look.rounds(x), roundsOf(words));
        }
    }

    private static void keyTakesAnyWord() {
        for (int v : new int[] {LOWEST, -1, 0, 1, 0x80, 0xFF, 0x8000, 0x800000, HIGHEST}) {
            SlicedCipher x = Given.told(32);
            x.key(0, v);
            x.key(7, v);
            x.ready();
            int[] words = toldWords();
            words[0] = v;
            words[7] = v;
            CHECK.dueText("2: key of words " + v, Look.rounds(x), roundsOf(words));
        }
    }

    /** 3: "IllegalArgumentException when it is not 0 .. 32." */
    private static void sizeTakes0To32() {
        for (int bytes = -2; bytes <= 34; bytes++) {
            int told = bytes;
            SlicedCipher x = Given.told(5);
            boolean allowed = bytes >= 0 && bytes <= 32;
            CHECK.dueText("3: size " + bytes, deed(() -> x.size(told)), allowed ? "0" : ARGUMENT);
            x.ready();
            CHECK.dueText("3: round keys after size " + bytes, Look.rounds(x),
                    roundsOf(padded(allowed ? bytes : 5)));
        }
    }

    /** Terms: "how many bytes of them count (0 .. 32)": of 0 no word matters, and the byte 1 is the first. */
    private static void keyOfNoBytes() {
        SlicedCipher x = Given.ready(0);
        SlicedCipher y = new SlicedCipher();
        y.size(0);
        y.ready();
        CHECK.dueText("3: no bytes", Look.rounds(x), Look.rounds(y));
        CHECK.dueText("3: no bytes, as told whole", Look.rounds(Given.ready(0)),
                roundsOf(new int[] {1, 0, 0, 0, 0, 0, 0, 0}));
        CHECK.due("3: no bytes, first word", x.round(0, 0), 1863812562);
        CHECK.due("3: no bytes, last word", x.round(32, 3), 1988492180);
    }

    /** Terms: "a byte 1, if there are less than 32": with all 32 there is none, and each byte is the told one. */
    private static void keyOfAllBytes() {
        CHECK.dueText("3: all 32 bytes", Look.rounds(Given.ready(32)), roundsOf(toldWords()));
        for (int n = 0; n < 32; n++) {
            SlicedCipher x = Given.told(32);
            x.key(n / 4, Given.keyWord(n / 4) ^ (0x80 << (8 * (n % 4))));
            x.ready();
            int[] words = toldWords();
            words[n / 4] ^= 0x80 << (8 * (n % 4));
            CHECK.dueText("3: byte " + n + " of all 32", Look.rounds(x), roundsOf(words));
        }
    }

    /** Terms: "word by word, each one's lowest byte first". */
    private static void lastByteCountsAndNextDoesNot() {
        for (int bytes = 0; bytes <= 32; bytes++) {
            String rounds = Look.rounds(Given.ready(bytes));
            if (bytes > 0) {
                CHECK.due("3: the last of " + bytes + " bytes counts",
                        Look.rounds(withOtherByte(bytes, bytes - 1)).equals(rounds) ? 1 : 0, 0);
            }
            if (bytes < 32) {
                CHECK.dueText("3: the byte behind " + bytes + " does not count",
                        Look.rounds(withOtherByte(bytes, bytes)), rounds);
                CHECK.dueText("3: the last of all bytes does not count, of " + bytes,
                        Look.rounds(withOtherByte(bytes, 31)), rounds);
            }
        }
    }

    /** Terms: "behind these stands a byte 1, if there are less than 32, and bytes 0: so k(-8) .. k(-1)." */
    private static void byte1AndBytes0StandBehind() {
        for (int bytes = 0; bytes <= 31; bytes++) {
            SlicedCipher whole = new SlicedCipher();
            for (int i = 0; i < 8; i++) {
                whole.key(i, padded(bytes)[i]);
            }
            whole.size(32);
            whole.ready();
            CHECK.dueText("3: " + bytes + " bytes, a 1 and 0s", Look.rounds(Given.ready(bytes)), Look.rounds(whole));
        }
    }

    private static void smallerSizeForgetsNoByte() {
        SlicedCipher x = Given.ready(0);
        sameWhenReady("3: 32 bytes after none", x, Given.told(32), 32);
        SlicedCipher y = Given.ready(32);
        sameWhenReady("3: no bytes after 32", y, Given.told(0), 0);
    }

    /** 4: "The round keys are made, as the key is told now." Even if it never was. */
    private static void readyWithNothingTold() {
        SlicedCipher x = new SlicedCipher();
        x.ready();
        CHECK.dueText("4: nothing told", Look.rounds(x), roundsOf(new int[] {1, 0, 0, 0, 0, 0, 0, 0}));
        CHECK.due("4: nothing told, run", x.run(0, false), 0);
    }

    /** Terms: "the key was not made ready since it was told": also by the same words or size again. */
    private static void readyOnlySinceTheKeyWasTold() {
        for (int i = 0; i < 8; i++) {
            SlicedCipher x = Given.tape(Given.ready(4), 8);
            x.key(i, Given.keyWord(i) + 1);
            notReady("2: word " + i + " told since", x);
            x.ready();
            isReady("4: made ready since", x);
            x.key(i, Given.keyWord(i) + 1);
            notReady("2: the same word " + i + " told again", x);
        }
        for (int bytes : new int[] {0, 4, 32}) {
            SlicedCipher x = Given.tape(Given.ready(4), 8);
            x.size(bytes);
            notReady("3: size " + bytes + " told since", x);
            x.ready();
            isReady("4: made ready since", x);
        }
    }

    private static void readyTakesTheKeyAsToldNow() {
        SlicedCipher x = Given.ready(32);
        x.ready();
        CHECK.dueText("4: ready twice", Look.rounds(x), roundsOf(toldWords()));
        SlicedCipher y = Given.ready(32);
        y.key(3, 5);
        y.key(3, 6);
        y.size(0);
        y.size(32);
        y.ready();
        int[] words = toldWords();
        words[3] = 6;
        CHECK.dueText("4: what was told last", Look.rounds(y), roundsOf(words));
        y.key(3, Given.keyWord(3));
        y.ready();
        CHECK.dueText("4: nothing stays of the key before", Look.rounds(y), roundsOf(toldWords()));
    }

    private static void readyLeavesTapeAndStart() {
        for (int words : new int[] {0, 3, 8, 256}) {
            SlicedCipher x = Given.tape(Given.told(32), words);
            x.ready();
            CHECK.dueText("4: ready behind a tape of " + words, Look.atAll(x),
                    Look.atAll(Given.tape(Given.ready(32), words)));
        }
    }

    /** 5: "Word j (0 .. 3) of round key r." r is 0 .. 32. */
    private static void roundTakes0To32AndWords0To3() {
        Model model = toldModel(toldWords());
        for (int r = -1; r <= 33; r++) {
            for (int j = -1; j <= 4; j++) {
                SlicedCipher x = Given.ready(32);
                int row = r;
                int at = j;
                boolean allowed = r >= 0 && r <= 32 && j >= 0 && j <= 3;
                CHECK.dueText("5: round " + r + ", " + j, Check.outcome(() -> x.round(row, at)),
                        allowed ? Long.toString(model.round(r, j)) : INDEX);
            }
        }
    }

    /** 5: "IllegalStateException when it is not ready": the tape is no matter. */
    private static void roundNeedsNoWholeBlocks() {
        for (int words : new int[] {0, 1, 2, 3, 255, 256}) {
            SlicedCipher x = Given.tape(Given.ready(32), words);
            CHECK.dueText("5: with a tape of " + words, Look.rounds(x), roundsOf(toldWords()));
        }
    }

    /** Terms: "For i from 0 to 131: k(i) = ..": each one, from the eight before it. */
    private static void firstAndLastOfTheSpreadKey() {
        int[] spread = new int[140];
        System.arraycopy(toldWords(), 0, spread, 0, 8);
        SlicedCipher x = Given.ready(32);
        for (int r = 0; r <= 32; r++) {
            System.arraycopy(Model.boxed(roundKey(x, r), (35 - r) % 8, true), 0, spread, 8 + 4 * r, 4);
        }
        for (int i = 0; i <= 131; i++) {
            int xored = spread[i] ^ spread[i + 3] ^ spread[i + 5] ^ spread[i + 7] ^ 0x9E3779B9 ^ i;
            CHECK.due("4: k(" + i + ")", spread[i + 8], xored << 11 | xored >>> 21);
        }
    }

    /** Terms: "box (3 - r) modulo 8 (from 0 on)": 3 for round 0, 0 for round 3, 7 for round 4, 3 for round 32. */
    private static void boxOfARoundKeyWrapsAround() {
        int[] boxes = {3, 2, 1, 0, 7, 6, 5, 4};
        SlicedCipher x = Given.ready(32);
        SlicedCipher boxer = new SlicedCipher();
        int[] k = spreadWords();
        for (int r = 0; r <= 32; r++) {
            int[] made = roundKey(x, r);
            // Lowest, highest and one more place: the others are Model's to look at.
            for (int place : new int[] {0, 15, 31}) {
                CHECK.due("4: box of round key " + r + ", place " + place, number(made, 0, place),
                        boxer.box(boxes[r % 8], number(k, 4 * r, place), false));
            }
        }
    }

    private static int number(int[] words, int from, int place) {
        int number = 0;
        for (int j = 0; j < 4; j++) {
            number |= (words[from + j] >>> place & 1) << j;
        }
        return number;
    }

    private static int[] spreadWords() {
        int[] k = new int[140];
        System.arraycopy(toldWords(), 0, k, 0, 8);
        for (int i = 0; i <= 131; i++) {
            int xored = k[i] ^ k[i + 3] ^ k[i + 5] ^ k[i + 7] ^ 0x9E3779B9 ^ i;
            k[i + 8] = xored << 11 | xored >>> 21;
        }
        return Arrays.copyOfRange(k, 8, 140);
    }

    private static int[] roundKey(SlicedCipher x, int r) {
        return new int[] {x.round(r, 0), x.round(r, 1), x.round(r, 2), x.round(r, 3)};
    }

    private static int[] toldWords() {
        int[] words = new int[8];
        for (int i = 0; i < 8; i++) {
            words[i] = Given.keyWord(i);
        }
        return words;
    }

    /** The told key cut to so many bytes, with the byte 1 and the bytes 0 behind it. */
    private static int[] padded(int bytes) {
        int[] words = new int[8];
        for (int n = 0; n < 32; n++) {
            int one = n < bytes ? Given.keyByte(n) : n == bytes ? 1 : 0;
            words[n / 4] |= one << (8 * (n % 4));
        }
        return words;
    }

    private static Model toldModel(int[] words) {
        Model model = new Model();
        for (int i = 0; i < 8; i++) {
            model.key(i, words[i]);
        }
        model.size(32);
        model.ready();
        return model;
    }

    private static String roundsOf(int[] words) {
        Model model = toldModel(words);
        StringBuilder due = new StringBuilder();
        for (int n = 0; n < 132; n++) {
            due.append(' ').append(model.round(n / 4, n % 4));
        }
        return due.toString();
    }

    private static SlicedCipher withOtherByte(int bytes, int n) {
        SlicedCipher x = Given.told(bytes);
        x.key(n / 4, Given.keyWord(n / 4) ^ (0x81 << (8 * (n % 4))));
        x.ready();
        return x;
    }

    private static void sameWhenReady(String what, SlicedCipher x, SlicedCipher y, int bytes) {
        x.size(bytes);
        y.size(bytes);
        x.ready();
        y.ready();
        CHECK.dueText(what, Look.rounds(x), Look.rounds(y));
    }

    private static void notReady(String what, SlicedCipher x) {
        CHECK.dueText(what + ", first word", Check.outcome(() -> x.round(0, 0)), STATE);
        CHECK.dueText(what + ", last word", Check.outcome(() -> x.round(32, 3)), STATE);
        for (int mode = 0; mode <= 2; mode++) {
            int known = mode;
            CHECK.dueText(what + ", run " + mode, Check.outcome(() -> x.run(known, false)), STATE);
            CHECK.dueText(what + ", run back " + mode, Check.outcome(() -> x.run(known, true)), STATE);
        }
        CHECK.dueText(what + ", seal", Check.outcome(() -> x.seal(0)), STATE);
    }

    private static void isReady(String what, SlicedCipher x) {
        CHECK.due(what + ", run", x.run(0, false), 2);
        CHECK.due(what + ", run back", x.run(0, true), 2);
        CHECK.dueText(what + ", round", Check.outcome(() -> x.round(0, 0) & 0L), "0");
        CHECK.dueText(what + ", seal", Check.outcome(() -> x.seal(0) & 0L), "0");
    }

    private static String deed(Check.Deed deed) {
        return Check.outcome(() -> {
            deed.act();
            return 0;
        });
    }
}
