/** The promises one by one: ordinary inputs, the edges that the document names, and wrong inputs. */
public final class PromiseTest {
    private static final Check CHECK = new Check("PromiseTest");
    private static final Class<IndexOutOfBoundsException> INDEX = IndexOutOfBoundsException.class;
    private static final Class<IllegalArgumentException> ARGUMENT = IllegalArgumentException.class;
    private static final Class<IllegalStateException> STATE = IllegalStateException.class;

    public static void main(String[] args) {
        promise1NewObject();
        promise2Key();
        promise3Size();
        promise4Ready();
        promise5Round();
        promise6Box();
        promise7Start();
        promise8Put();
        promise9Cut();
        promise10Word();
        promise11Modes();
        promise11Counter();
        promise11Wrong();
        promise12Seal();
        objectsStandAlone();
        CHECK.end();
    }

    private static void promise1NewObject() {
        SlicedCipher x = new SlicedCipher();
        CHECK.throwsDue("1: word of an empty tape", INDEX, () -> x.word(0));
        CHECK.throwsDue("1: round of a new object", STATE, () -> x.round(0, 0));
        CHECK.throwsDue("1: run of a new object", STATE, () -> x.run(0, false));
        CHECK.throwsDue("1: seal of a new object", STATE, () -> x.seal(0));
        x.ready();
        CHECK.due("1: no byte of the key counts", x.round(0, 0), 1863812562);
        CHECK.due("1: no blocks", x.run(1, false), 0);
        SlicedCipher told = new SlicedCipher();
        for (int i = 0; i < 8; i++) {
            told.key(i, 0);
        }
        for (int j = 0; j < 4; j++) {
            told.start(j, 0);
        }
        x.size(32);
        told.size(32);
        for (int mode = 1; mode <= 2; mode++) {
            sameAfter("1: words of 0, mode " + mode, x, told, mode);
        }
    }

    private static void promise2Key() {
        SlicedCipher x = readied(32);
        int before = x.round(0, 0);
        CHECK.throwsDue("2: key -1", INDEX, () -> x.key(-1, 5));
        CHECK.throwsDue("2: key 8", INDEX, () -> x.key(8, 5));
        CHECK.throwsDue("2: key lowest", INDEX, () -> x.key(Integer.MIN_VALUE, 5));
        CHECK.throwsDue("2: key highest", INDEX, () -> x.key(Integer.MAX_VALUE, 5));
        CHECK.due("2: a wrong key leaves it ready", x.round(0, 0), before);
        for (int i = 0; i < 8; i++) {
            int at = i;
            SlicedCipher y = readied(32);
            y.key(at, 0x01020304);
            CHECK.throwsDue("2: a told word needs ready", STATE, () -> y.round(0, 0));
            y.ready();
            CHECK.due("2: word " + i + " counts", y.round(32, 3) == x.round(32, 3) ? 1 : 0, 0);
        }
        SlicedCipher same = readied(32);
        same.key(0, filledWord(0));
        CHECK.throwsDue("2: the same word told again", STATE, () -> same.run(0, false));
    }

    private static void promise3Size() {
        SlicedCipher x = readied(7);
        int before = x.round(3, 1);
        CHECK.throwsDue("3: size -1", ARGUMENT, () -> x.size(-1));
        CHECK.throwsDue("3: size 33", ARGUMENT, () -> x.size(33));
        CHECK.throwsDue("3: size lowest", ARGUMENT, () -> x.size(Integer.MIN_VALUE));
        CHECK.throwsDue("3: size highest", ARGUMENT, () -> x.size(Integer.MAX_VALUE));
        CHECK.due("3: a wrong size leaves it ready", x.round(3, 1), before);
        x.size(7);
        CHECK.throwsDue("3: a told size needs ready", STATE, () -> x.round(0, 0));
        for (int bytes = 0; bytes <= 31; bytes++) {
            sizeEndsTheKey(bytes);
        }
        SlicedCipher back = filled();
        back.size(1);
        back.ready();
        back.size(32);
        SlicedCipher whole = filled();
        whole.size(32);
        sameRounds("3: a smaller size forgets no word", back, whole);
    }

    /** A key of fewer bytes is the one of 32 with the byte 1 and bytes 0 told. */
    private static void sizeEndsTheKey(int bytes) {
        SlicedCipher few = filled();
        few.size(bytes);
        SlicedCipher whole = new SlicedCipher();
        whole.size(32);
        for (int i = 0; i < 8; i++) {
            int w = 0;
            for (int p = 0; p < 4; p++) {
                int n = 4 * i + p;
                int one = n < bytes ? filledWord(i) >>> (8 * p) & 255 : n == bytes ? 1 : 0;
                w |= one << (8 * p);
            }
            whole.key(i, w);
        }
        sameRounds("3: size " + bytes, few, whole);
    }

    private static void promise4Ready() {
        SlicedCipher x = filled();
        x.size(20);
        x.ready();
        int first = x.round(9, 2);
        x.ready();
        CHECK.due("4: ready twice", x.round(9, 2), first);
        x.key(0, 99);
        x.ready();
        CHECK.due("4: ready follows the key", x.round(9, 2) == first ? 1 : 0, 0);
        x.key(0, filledWord(0));
        x.ready();
        CHECK.due("4: ready keeps nothing of an older key", x.round(9, 2), first);
    }

    private static void promise5Round() {
        SlicedCipher x = new SlicedCipher();
        CHECK.throwsDue("5: both wrong, index first", INDEX, () -> x.round(33, 0));
        CHECK.throwsDue("5: both wrong, index first", INDEX, () -> x.round(0, 4));
        CHECK.throwsDue("5: not ready", STATE, () -> x.round(32, 3));
        x.ready();
        CHECK.throwsDue("5: round -1", INDEX, () -> x.round(-1, 0));
        CHECK.throwsDue("5: round 33", INDEX, () -> x.round(33, 0));
        CHECK.throwsDue("5: word -1", INDEX, () -> x.round(0, -1));
        CHECK.throwsDue("5: word 4", INDEX, () -> x.round(0, 4));
        CHECK.throwsDue("5: lowest", INDEX, () -> x.round(Integer.MIN_VALUE, Integer.MIN_VALUE));
        CHECK.throwsDue("5: highest", INDEX, () -> x.round(Integer.MAX_VALUE, Integer.MAX_VALUE));
        CHECK.due("5: first", x.round(0, 0), 1863812562);
        CHECK.due("5: in the middle", x.round(17, 2), 1833743715);
        CHECK.due("5: last", x.round(32, 3), 1988492180);
        x.put(1, 2, 3, 4);
        x.cut(3);
        CHECK.due("5: a broken tape is no matter here", x.round(32, 3), 1988492180);
    }

    private static void promise6Box() {
        SlicedCipher x = new SlicedCipher();
        for (int which = 0; which < 8; which++) {
            for (int v = 0; v < 16; v++) {
                int made = Model.BOX[which][v];
                CHECK.due("6: box " + which + " of " + v, x.box(which, v, false), made);
                CHECK.due("6: box " + which + " back of " + made, x.box(which, made, true), v);
            }
        }
        for (boolean back : new boolean[] {false, true}) {
            CHECK.throwsDue("6: box -1", INDEX, () -> x.box(-1, 0, back));
            CHECK.throwsDue("6: box 8", INDEX, () -> x.box(8, 0, back));
            CHECK.throwsDue("6: number -1", ARGUMENT, () -> x.box(0, -1, back));
            CHECK.throwsDue("6: number 16", ARGUMENT, () -> x.box(7, 16, back));
            CHECK.throwsDue("6: both wrong, index first", INDEX, () -> x.box(8, 16, back));
            CHECK.throwsDue("6: lowest", INDEX, () -> x.box(Integer.MIN_VALUE, 0, back));
            CHECK.throwsDue("6: highest", ARGUMENT, () -> x.box(0, Integer.MAX_VALUE, back));
        }
    }

    private static void promise7Start() {
        SlicedCipher x = readied(32);
        CHECK.throwsDue("7: start -1", INDEX, () -> x.start(-1, 1));
        CHECK.throwsDue("7: start 4", INDEX, () -> x.start(4, 1));
        CHECK.throwsDue("7: start lowest", INDEX, () -> x.start(Integer.MIN_VALUE, 1));
        x.start(2, 77);
        CHECK.due("7: a start leaves the key ready", x.round(0, 0), readied(32).round(0, 0));
        // Chained, a block that is its own start is a block of 0 alone.
        SlicedCipher alone = readied(32);
        alone.put(0, 0, 0, 0);
        alone.run(0, false);
        SlicedCipher chained = readied(32);
        for (int j = 0; j < 4; j++) {
            chained.start(j, 1000 + j);
        }
        chained.put(1000, 1001, 1002, 1003);
        chained.run(1, false);
        sameTape("7: start", chained, alone, 4);
    }

    private static void promise8Put() {
        SlicedCipher x = new SlicedCipher();
        for (int i = 1; i <= 64; i++) {
            CHECK.due("8: put", x.put(i, -i, 2 * i, 3 * i), 4 * i);
        }
        CHECK.throwsDue("8: the 257th word", STATE, () -> x.put(9, 9, 9, 9));
        CHECK.due("8: last word stays", x.word(255), 192);
        CHECK.throwsDue("8: no word came", INDEX, () -> x.word(256));
        x.cut(253);
        CHECK.throwsDue("8: 257 from 253", STATE, () -> x.put(9, 9, 9, 9));
        CHECK.throwsDue("8: no word came", INDEX, () -> x.word(253));
        x.cut(252);
        CHECK.due("8: full again", x.put(5, 6, 7, 8), 256);
        CHECK.due("8: new word", x.word(252), 5);
        x.cut(3);
        CHECK.due("8: behind a broken block", x.put(5, 6, 7, 8), 7);
        CHECK.due("8: word 2", x.word(2), 2);
        for (int j = 0; j < 4; j++) {
            CHECK.due("8: word", x.word(3 + j), 5 + j);
        }
    }

    private static void promise9Cut() {
        SlicedCipher x = new SlicedCipher();
        CHECK.due("9: nothing of nothing", x.cut(0), 0);
        CHECK.throwsDue("9: more than nothing", ARGUMENT, () -> x.cut(1));
        x.put(1, 2, 3, 4);
        x.put(5, 6, 7, 8);
        CHECK.throwsDue("9: below 0", ARGUMENT, () -> x.cut(-1));
        CHECK.throwsDue("9: it has less", ARGUMENT, () -> x.cut(9));
        CHECK.throwsDue("9: lowest", ARGUMENT, () -> x.cut(Integer.MIN_VALUE));
        CHECK.throwsDue("9: highest", ARGUMENT, () -> x.cut(Integer.MAX_VALUE));
        CHECK.due("9: all stays", x.cut(8), 8);
        CHECK.due("9: word 7", x.word(7), 8);
        CHECK.due("9: within a block", x.cut(5), 5);
        CHECK.due("9: word 4", x.word(4), 5);
        CHECK.throwsDue("9: word 5 is gone", INDEX, () -> x.word(5));
        CHECK.throwsDue("9: not back again", ARGUMENT, () -> x.cut(6));
    }

    private static void promise10Word() {
        SlicedCipher x = new SlicedCipher();
        x.put(Integer.MIN_VALUE, -1, 0, Integer.MAX_VALUE);
        CHECK.due("10: word 0", x.word(0), Integer.MIN_VALUE);
        CHECK.due("10: word 1", x.word(1), -1);
        CHECK.due("10: word 2", x.word(2), 0);
        CHECK.due("10: word 3", x.word(3), Integer.MAX_VALUE);
        CHECK.throwsDue("10: word -1", INDEX, () -> x.word(-1));
        CHECK.throwsDue("10: word 4", INDEX, () -> x.word(4));
        CHECK.throwsDue("10: word 256", INDEX, () -> x.word(256));
        CHECK.throwsDue("10: lowest", INDEX, () -> x.word(Integer.MIN_VALUE));
    }

    private static void promise11Modes() {
        for (int mode = 0; mode <= 2; mode++) {
            for (int blocks = 0; blocks <= 64; blocks += 16) {
                thereAndBack(mode, blocks, false);
                thereAndBack(mode, blocks, true);
            }
        }
        SlicedCipher x = readied(32);
        x.put(1, 2, 3, 4);
        x.put(1, 2, 3, 4);
        x.run(0, false);
        CHECK.due("11: alone, like blocks become alike", x.word(0) == x.word(4) ? 1 : 0, 1);
        SlicedCipher y = readied(32);
        y.put(1, 2, 3, 4);
        y.put(1, 2, 3, 4);
        y.run(1, false);
        CHECK.due("11: chained with a start of 0, the first is as alone", y.word(0), x.word(0));
        CHECK.due("11: chained, like blocks differ", y.word(0) == y.word(4) ? 1 : 0, 0);
        SlicedCipher z = readied(32);
        z.put(11, 12, 13, 14);
        z.run(2, false);
        z.run(2, false);
        CHECK.due("11: counted, twice is back", z.word(3), 14);
    }

    private static void thereAndBack(int mode, int blocks, boolean backFirst) {
        SlicedCipher x = readied(32);
        for (int j = 0; j < 4; j++) {
            x.start(j, -1 - j);
        }
        for (int i = 0; i < blocks; i++) {
            x.put(i, 3 * i, -i, 7);
        }
        CHECK.due("11: blocks", x.run(mode, backFirst), blocks);
        CHECK.due("11: blocks back", x.run(mode, !backFirst), blocks);
        for (int i = 0; i < blocks; i++) {
            CHECK.due("11: mode " + mode + " back, a", x.word(4 * i), i);
            CHECK.due("11: mode " + mode + " back, b", x.word(4 * i + 1), 3 * i);
            CHECK.due("11: mode " + mode + " back, c", x.word(4 * i + 2), -i);
            CHECK.due("11: mode " + mode + " back, d", x.word(4 * i + 3), 7);
        }
    }

    /** The counter's carry goes from a to b, c and d, and from all ones to 0. */
    private static void promise11Counter() {
        int[][] starts = {{5, 6, 7, 8}, {-1, 6, 7, 8}, {-1, -1, 7, 8}, {-1, -1, -1, 8}, {-1, -1, -1, -1},
            {Integer.MAX_VALUE, -1, -1, -1}, {-2, -1, -1, -1}};
        int[][] nexts = {{6, 6, 7, 8}, {0, 7, 7, 8}, {0, 0, 8, 8}, {0, 0, 0, 9}, {0, 0, 0, 0},
            {Integer.MIN_VALUE, -1, -1, -1}, {-1, -1, -1, -1}};
        for (int n = 0; n < starts.length; n++) {
            SlicedCipher counted = readied(32);
            SlicedCipher alone = readied(32);
            int[] s = starts[n];
            int[] t = nexts[n];
            for (int j = 0; j < 4; j++) {
                counted.start(j, s[j]);
            }
            counted.put(0, 0, 0, 0);
            counted.put(0, 0, 0, 0);
            counted.run(2, n % 2 == 1);
            alone.put(s[0], s[1], s[2], s[3]);
            alone.put(t[0], t[1], t[2], t[3]);
            alone.run(0, false);
            sameTape("11: counter from start " + n, counted, alone, 8);
        }
    }

    private static void promise11Wrong() {
        SlicedCipher x = new SlicedCipher();
        CHECK.throwsDue("11: both wrong, argument first", ARGUMENT, () -> x.run(3, false));
        CHECK.throwsDue("11: not ready", STATE, () -> x.run(2, true));
        x.ready();
        x.put(1, 2, 3, 4);
        x.put(5, 6, 7, 8);
        CHECK.throwsDue("11: mode -1", ARGUMENT, () -> x.run(-1, false));
        CHECK.throwsDue("11: mode 3", ARGUMENT, () -> x.run(3, true));
        CHECK.throwsDue("11: mode lowest", ARGUMENT, () -> x.run(Integer.MIN_VALUE, true));
        CHECK.throwsDue("11: mode highest", ARGUMENT, () -> x.run(Integer.MAX_VALUE, true));
        for (int n = 7; n >= 5; n--) {
            x.cut(n);
            for (int mode = 0; mode <= 2; mode++) {
                int m = mode;
                CHECK.throwsDue("11: within a block", STATE, () -> x.run(m, false));
                CHECK.throwsDue("11: within a block, back", STATE, () -> x.run(m, true));
            }
            CHECK.throwsDue("11: mode 3 within a block", ARGUMENT, () -> x.run(3, true));
        }
        for (int i = 0; i < 5; i++) {
            CHECK.due("11: what threw changed nothing", x.word(i), i + 1);
        }
        x.key(0, 0);
        x.cut(4);
        CHECK.throwsDue("11: not ready again", STATE, () -> x.run(0, false));
        x.cut(0);
        CHECK.throwsDue("11: not ready, without a block too", STATE, () -> x.run(0, false));
        x.ready();
        CHECK.due("11: no block", x.run(0, true), 0);
    }

    private static void promise12Seal() {
        SlicedCipher x = new SlicedCipher();
        CHECK.throwsDue("12: both wrong, index first", INDEX, () -> x.seal(4));
        CHECK.throwsDue("12: not ready", STATE, () -> x.seal(3));
        x.ready();
        CHECK.throwsDue("12: word -1", INDEX, () -> x.seal(-1));
        CHECK.throwsDue("12: word 4", INDEX, () -> x.seal(4));
        for (int j = 0; j < 4; j++) {
            x.start(j, 50 + j);
            CHECK.due("12: without a block", x.seal(j), 0);
        }
        for (int blocks = 1; blocks <= 64; blocks += 9) {
            sealIsTheLastChained(blocks);
        }
        x.put(1, 2, 3, 4);
        x.cut(2);
        CHECK.throwsDue("12: within a block", STATE, () -> x.seal(0));
        CHECK.throwsDue("12: within a block, index first", INDEX, () -> x.seal(4));
        x.cut(0);
        CHECK.due("12: without a block again", x.seal(0), 0);
    }

    private static void sealIsTheLastChained(int blocks) {
        SlicedCipher sealed = readied(32);
        SlicedCipher chained = readied(32);
        sealed.start(1, 4444);
        for (int i = 0; i < blocks; i++) {
            sealed.put(i, 5, -i, 6);
            chained.put(i, 5, -i, 6);
        }
        chained.run(1, false);
        for (int j = 0; j < 4; j++) {
            CHECK.due("12: seal of " + blocks, sealed.seal(j), chained.word(4 * blocks - 4 + j));
        }
        for (int i = 0; i < blocks; i++) {
            CHECK.due("12: the tape stays", sealed.word(4 * i), i);
            CHECK.due("12: the tape stays", sealed.word(4 * i + 3), 6);
        }
        // The start must have stayed too: a block that is the start is then, chained, one of 0.
        sealed.cut(0);
        sealed.put(0, 4444, 0, 0);
        sealed.run(1, false);
        SlicedCipher alone = readied(32);
        alone.put(0, 0, 0, 0);
        alone.run(0, false);
        sameTape("12: the start stays", sealed, alone, 4);
    }

    private static void objectsStandAlone() {
        SlicedCipher x = readied(32);
        SlicedCipher y = readied(5);
        x.put(1, 2, 3, 4);
        CHECK.throwsDue("two objects, two tapes", INDEX, () -> y.word(0));
        CHECK.due("two objects, two keys", x.round(1, 1) == y.round(1, 1) ? 1 : 0, 0);
    }

    private static int filledWord(int i) {
        return 0x89ABCDEF * (i + 1);
    }

    private static SlicedCipher filled() {
        SlicedCipher x = new SlicedCipher();
        for (int i = 0; i < 8; i++) {
            x.key(i, filledWord(i));
        }
        return x;
    }

    private static SlicedCipher readied(int bytes) {
        SlicedCipher x = filled();
        x.size(bytes);
        x.ready();
        return x;
    }

    private static void sameRounds(String what, SlicedCipher x, SlicedCipher y) {
        x.ready();
        y.ready();
        for (int r = 0; r <= 32; r++) {
            for (int j = 0; j < 4; j++) {
                CHECK.due(what + ", round " + r + " word " + j, x.round(r, j), y.round(r, j));
            }
        }
    }

    private static void sameAfter(String what, SlicedCipher x, SlicedCipher y, int mode) {
        x.ready();
        y.ready();
        x.cut(0);
        y.cut(0);
        x.put(1, 2, 3, 4);
        y.put(1, 2, 3, 4);
        x.run(mode, false);
        y.run(mode, false);
        sameTape(what, x, y, 4);
    }

    private static void sameTape(String what, SlicedCipher x, SlicedCipher y, int words) {
        for (int i = 0; i < words; i++) {
            CHECK.due(what + ", word " + i, x.word(i), y.word(i));
        }
    }
}
