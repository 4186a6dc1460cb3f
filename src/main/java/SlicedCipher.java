/**
 * A cipher of blocks of four words by boxes of sixteen, thirty-two of them side by side in the bits
 * of the words: keys of any length made into thirty-three, blocks enciphered and back, rows of blocks
 * alone, chained or counted, and a seal.
 */
public final class SlicedCipher {

    private static final int BLOCK = 4;
    private static final int KEY_WORDS = 8;
    private static final int KEY_BYTES = 32;
    private static final int ROUNDS = 32;
    private static final int SPREAD_WORDS = BLOCK * (ROUNDS + 1);
    private static final int TAPE_WORDS = 256;
    private static final int BOX_COUNT = 8;
    private static final int BOX_SIZE = 16;
    private static final int GOLDEN = 0x9E3779B9;

    private static final int ALONE = 0;
    private static final int CHAINED = 1;
    private static final int COUNTED = 2;

    private static final int[] BOXES = {
        3, 8, 15, 1, 10, 6, 5, 11, 14, 13, 4, 2, 7, 0, 9, 12,
        15, 12, 2, 7, 9, 0, 5, 10, 1, 11, 14, 8, 6, 13, 3, 4,
        8, 6, 7, 9, 3, 12, 10, 15, 13, 1, 14, 4, 0, 11, 5, 2,
        0, 15, 11, 8, 12, 9, 6, 3, 13, 1, 2, 4, 10, 7, 5, 14,
        1, 15, 8, 3, 12, 0, 11, 6, 2, 5, 4, 10, 9, 14, 7, 13,
        15, 5, 2, 11, 4, 10, 9, 12, 0, 3, 14, 8, 13, 6, 7, 1,
        7, 2, 12, 5, 8, 4, 6, 11, 14, 9, 1, 15, 13, 3, 10, 0,
        1, 13, 15, 0, 14, 8, 2, 11, 7, 4, 12, 10, 9, 3, 5, 6
    };

    private final int[] keyWords = new int[KEY_WORDS];
    private int keyBytes;
    private boolean keyIsReady;

    // k(i) stands at i + KEY_WORDS, so that k(-8) has a place; once made, the round keys take the
    // places of k(0) .. k(131).
    private final int[] schedule = new int[KEY_WORDS + SPREAD_WORDS];

    private final int[] startWords = new int[BLOCK];
    private final int[] tape = new int[TAPE_WORDS];
    private int tapeLength;

    // Rows that calls work in, made once so that no call makes any.
    private final int[] counter = new int[BLOCK];
    private final int[] scratch = new int[BLOCK];

    public SlicedCipher() {
        keyBytes = 0;
        keyIsReady = false;
        tapeLength = 0;
    }

    public void key(int i, int v) throws IndexOutOfBoundsException {
        if (i < 0 || i >= KEY_WORDS) {
            throw new IndexOutOfBoundsException("no such word of the key");
        }
        keyWords[i] = v;
        keyIsReady = false;
    }

    public void size(int bytes) throws IllegalArgumentException {
        if (bytes < 0 || bytes > KEY_BYTES) {
            throw new IllegalArgumentException("a key has 0 to 32 bytes");
        }
        keyBytes = bytes;
        keyIsReady = false;
    }

    public void ready() {
        for (int w = 0; w < KEY_WORDS; w++) {
            schedule[w] = paddedKeyWord(w);
        }
        spreadKey();
        for (int r = 0; r <= ROUNDS; r++) {
            passBox(schedule, roundKeyAt(r), Math.floorMod(3 - r, BOX_COUNT), false);
        }
        keyIsReady = true;
    }

    public int round(int r, int j) throws IndexOutOfBoundsException, IllegalStateException {
        if (r < 0 || r > ROUNDS || j < 0 || j >= BLOCK) {
            throw new IndexOutOfBoundsException("no such word of a round key");
        }
        needReadyKey();
        return schedule[roundKeyAt(r) + j];
    }

    public int box(int which, int v, boolean back)
            throws IndexOutOfBoundsException, IllegalArgumentException {
        if (which < 0 || which >= BOX_COUNT) {
            throw new IndexOutOfBoundsException("no such box");
        }
        if (v < 0 || v >= BOX_SIZE) {
            throw new IllegalArgumentException("a box changes 0 to 15");
        }
        return back ? sourceInBox(which, v) : BOXES[which * BOX_SIZE + v];
    }

    public void start(int j, int v) throws IndexOutOfBoundsException {
        if (j < 0 || j >= BLOCK) {
            throw new IndexOutOfBoundsException("no such word of the start");
        }
        startWords[j] = v;
    }

    public int put(int a, int b, int c, int d) throws IllegalStateException {
        if (tapeLength + BLOCK > TAPE_WORDS) {
            throw new IllegalStateException("the tape is full");
        }
        tape[tapeLength] = a;
        tape[tapeLength + 1] = b;
        tape[tapeLength + 2] = c;
        tape[tapeLength + 3] = d;
        tapeLength += BLOCK;
        return tapeLength;
    }

    public int cut(int n) throws IllegalArgumentException {
        if (n < 0 || n > tapeLength) {
            throw new IllegalArgumentException("the tape has no such length to keep");
        }
        tapeLength = n;
        return n;
    }

    public int word(int i) throws IndexOutOfBoundsException {
        if (i < 0 || i >= tapeLength) {
            throw new IndexOutOfBoundsException("no such word of the tape");
        }
        return tape[i];
    }

    public int run(int mode, boolean back) throws IllegalArgumentException, IllegalStateException {
        if (mode < ALONE || mode > COUNTED) {
            throw new IllegalArgumentException("no such mode");
        }
        needReadyKey();
        needWholeBlocks();
        if (mode == COUNTED) {
            maskByCounter();
        } else if (mode == CHAINED) {
            if (back) {
                unchainTape();
            } else {
                chainTape();
            }
        } else {
            changeEachBlock(back);
        }
        return tapeLength / BLOCK;
    }

    public int seal(int j) throws IndexOutOfBoundsException, IllegalStateException {
        if (j < 0 || j >= BLOCK) {
            throw new IndexOutOfBoundsException("no such word of the seal");
        }
        needReadyKey();
        needWholeBlocks();
        for (int i = 0; i < BLOCK; i++) {
            scratch[i] = 0;
        }
        for (int at = 0; at < tapeLength; at += BLOCK) {
            xorBlock(scratch, 0, tape, at);
            encipher(scratch, 0);
        }
        return scratch[j];
    }

    private void needReadyKey() {
        if (!keyIsReady) {
            throw new IllegalStateException("the key is not ready");
        }
    }

    private void needWholeBlocks() {
        if (tapeLength % BLOCK != 0) {
            throw new IllegalStateException("the tape ends within a block");
        }
    }

    private int paddedKeyWord(int w) {
        int padded = 0;
        for (int p = 0; p < 4; p++) {
            padded |= paddedKeyByte(4 * w + p) << (8 * p);
        }
        return padded;
    }

    private int paddedKeyByte(int n) {
        if (n < keyBytes) {
            return (keyWords[n / 4] >>> (8 * (n % 4))) & 0xFF;
        }
        return n == keyBytes ? 1 : 0;
    }

    private void spreadKey() {
        for (int i = 0; i < SPREAD_WORDS; i++) {
            int at = i + KEY_WORDS;
            int mixed = schedule[at - 8] ^ schedule[at - 5] ^ schedule[at - 3] ^ schedule[at - 1];
            schedule[at] = Integer.rotateLeft(mixed ^ GOLDEN ^ i, 11);
        }
    }

    private static int roundKeyAt(int r) {
        return KEY_WORDS + BLOCK * r;
    }

    private static int sourceInBox(int which, int made) {
        int source = 0;
        for (int n = 0; n < BOX_SIZE; n++) {
            if (BOXES[which * BOX_SIZE + n] == made) {
                source = n;
            }
        }
        return source;
    }

    private void changeEachBlock(boolean back) {
        for (int at = 0; at < tapeLength; at += BLOCK) {
            if (back) {
                decipher(tape, at);
            } else {
                encipher(tape, at);
            }
        }
    }

    private void chainTape() {
        for (int at = 0; at < tapeLength; at += BLOCK) {
            xorWithOneBefore(at);
            encipher(tape, at);
        }
    }

    // From the end, because a block needs the one before as it still is enciphered.
    private void unchainTape() {
        for (int at = tapeLength - BLOCK; at >= 0; at -= BLOCK) {
            decipher(tape, at);
            xorWithOneBefore(at);
        }
    }

    private void xorWithOneBefore(int at) {
        if (at == 0) {
            xorBlock(tape, 0, startWords, 0);
        } else {
            xorBlock(tape, at, tape, at - BLOCK);
        }
    }

    // The counter is a copy, because the start stays what it was told to be.
    private void maskByCounter() {
        System.arraycopy(startWords, 0, counter, 0, BLOCK);
        for (int at = 0; at < tapeLength; at += BLOCK) {
            System.arraycopy(counter, 0, scratch, 0, BLOCK);
            encipher(scratch, 0);
            xorBlock(tape, at, scratch, 0);
            countOneMore();
        }
    }

    private void countOneMore() {
        for (int j = 0; j < BLOCK; j++) {
            counter[j]++;
            if (counter[j] != 0) {
                break;
            }
        }
    }

    private void encipher(int[] words, int at) {
        for (int r = 0; r < ROUNDS; r++) {
            xorBlock(words, at, schedule, roundKeyAt(r));
            passBox(words, at, r % BOX_COUNT, false);
            if (r < ROUNDS - 1) {
                mix(words, at);
            }
        }
        xorBlock(words, at, schedule, roundKeyAt(ROUNDS));
    }

    private void decipher(int[] words, int at) {
        xorBlock(words, at, schedule, roundKeyAt(ROUNDS));
        for (int r = ROUNDS - 1; r >= 0; r--) {
            if (r < ROUNDS - 1) {
                unmix(words, at);
            }
            passBox(words, at, r % BOX_COUNT, true);
            xorBlock(words, at, schedule, roundKeyAt(r));
        }
    }

    private static void xorBlock(int[] words, int at, int[] others, int from) {
        for (int j = 0; j < BLOCK; j++) {
            words[at + j] ^= others[from + j];
        }
    }

    // All 32 places go through the box together: for each number a box can meet, the places that
    // hold it are found at once and given the bits of what it becomes.
    private static void passBox(int[] words, int at, int which, boolean back) {
        int a = words[at];
        int b = words[at + 1];
        int c = words[at + 2];
        int d = words[at + 3];
        int newA = 0;
        int newB = 0;
        int newC = 0;
        int newD = 0;
        for (int n = 0; n < BOX_SIZE; n++) {
            int made = BOXES[which * BOX_SIZE + n];
            int from = back ? made : n;
            int to = back ? n : made;
            int places = placesWith(a, from) & placesWith(b, from >> 1)
                    & placesWith(c, from >> 2) & placesWith(d, from >> 3);
            newA |= places & lowestBitEverywhere(to);
            newB |= places & lowestBitEverywhere(to >> 1);
            newC |= places & lowestBitEverywhere(to >> 2);
            newD |= places & lowestBitEverywhere(to >> 3);
        }
        words[at] = newA;
        words[at + 1] = newB;
        words[at + 2] = newC;
        words[at + 3] = newD;
    }

    private static int placesWith(int word, int number) {
        return ~(word ^ lowestBitEverywhere(number));
    }

    private static int lowestBitEverywhere(int number) {
        return -(number & 1);
    }

    private static void mix(int[] words, int at) {
        int a = Integer.rotateLeft(words[at], 13);
        int c = Integer.rotateLeft(words[at + 2], 3);
        int b = Integer.rotateLeft(words[at + 1] ^ a ^ c, 1);
        int d = Integer.rotateLeft(words[at + 3] ^ c ^ (a << 3), 7);
        a = a ^ b ^ d;
        c = c ^ d ^ (b << 7);
        words[at] = Integer.rotateLeft(a, 5);
        words[at + 1] = b;
        words[at + 2] = Integer.rotateLeft(c, 22);
        words[at + 3] = d;
    }

    private static void unmix(int[] words, int at) {
        int b = words[at + 1];
        int d = words[at + 3];
        int c = Integer.rotateRight(words[at + 2], 22) ^ d ^ (b << 7);
        int a = Integer.rotateRight(words[at], 5) ^ b ^ d;
        words[at] = Integer.rotateRight(a, 13);
        words[at + 1] = Integer.rotateRight(b, 1) ^ a ^ c;
        words[at + 2] = Integer.rotateRight(c, 3);
        words[at + 3] = Integer.rotateRight(d, 7) ^ c ^ (a << 3);
    }
}
