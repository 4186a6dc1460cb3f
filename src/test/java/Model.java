import java.math.BigInteger;
import java.util.ArrayList;
import java.util.List;

/**
 * The document once more, written as differently from the program as it can be: bits one by one,
 * bytes one by one, a counter of one big number, and undoing by tables searched backwards.
 */
final class Model {
    static final String BOX_TEXT =
            "3 8 15 1 10 6 5 11 14 13 4 2 7 0 9 12; 15 12 2 7 9 0 5 10 1 11 14 8 6 13 3 4; "
            + "8 6 7 9 3 12 10 15 13 1 14 4 0 11 5 2; 0 15 11 8 12 9 6 3 13 1 2 4 10 7 5 14; "
            + "1 15 8 3 12 0 11 6 2 5 4 10 9 14 7 13; 15 5 2 11 4 10 9 12 0 3 14 8 13 6 7 1; "
            + "7 2 12 5 8 4 6 11 14 9 1 15 13 3 10 0; 1 13 15 0 14 8 2 11 7 4 12 10 9 3 5 6";
    static final int[][] BOX = readBoxes();

    private final int[] key = new int[8];
    private final int[] start = new int[4];
    private final List<Integer> tape = new ArrayList<>();
    private int size = 0;
    private int[][] rounds = null;

    private static int[][] readBoxes() {
        String[] rows = BOX_TEXT.split("; ");
        int[][] boxes = new int[8][16];
        for (int b = 0; b < 8; b++) {
            String[] numbers = rows[b].split(" ");
            for (int n = 0; n < 16; n++) {
                boxes[b][n] = Integer.parseInt(numbers[n]);
            }
        }
        return boxes;
    }

    long key(int i, int v) {
        index(i, 8);
        key[i] = v;
        rounds = null;
        return 0;
    }

    long size(int bytes) {
        argument(bytes >= 0 && bytes <= 32);
        size = bytes;
        rounds = null;
        return 0;
    }

    long ready() {
        byte[] bytes = new byte[32];
        for (int n = 0; n < size; n++) {
            bytes[n] = (byte) (key[n / 4] >> (n % 4 * 8));
        }
        if (size < 32) {
            bytes[size] = 1;
        }
        long[] k = new long[140];
        for (int n = 0; n < 32; n++) {
            k[n / 4] += (bytes[n] & 255L) << (n % 4 * 8);
        }
        for (int i = 0; i < 132; i++) {
            long x = k[i] ^ k[i + 3] ^ k[i + 5] ^ k[i + 7] ^ 0x9E3779B9L ^ i;
            k[i + 8] = (x * 2048) % 4294967296L + (x >> 21);
        }
        rounds = new int[33][];
        for (int r = 0; r < 33; r++) {
            int[] words = new int[4];
            for (int j = 0; j < 4; j++) {
                words[j] = (int) k[8 + 4 * r + j];
            }
            rounds[r] = boxed(words, (3 - r + 64) % 8, false);
        }
        return 0;
    }

    long round(int r, int j) {
        index(r, 33);
        index(j, 4);
        state(rounds != null);
        return rounds[r][j];
    }

    long box(int which, int v, boolean back) {
        index(which, 8);
        argument(v >= 0 && v < 16);
        return through(which, v, back);
    }

    long start(int j, int v) {
        index(j, 4);
        start[j] = v;
        return 0;
    }

    long put(int a, int b, int c, int d) {
        state(tape.size() <= 252);
        tape.add(a);
        tape.add(b);
        tape.add(c);
        tape.add(d);
        return tape.size();
    }

    long cut(int n) {
        argument(n >= 0 && n <= tape.size());
        while (tape.size() > n) {
            tape.remove(tape.size() - 1);
        }
        return n;
    }

    long word(int i) {
        index(i, tape.size());
        return tape.get(i);
    }

    long run(int mode, boolean back) {
        argument(mode >= 0 && mode <= 2);
        state(rounds != null);
        state(tape.size() % 4 == 0);
        int[] before = start.clone();
        BigInteger count = BigInteger.ZERO;
        for (int j = 3; j >= 0; j--) {
            count = count.shiftLeft(32).add(BigInteger.valueOf(start[j] & 0xFFFFFFFFL));
        }
        int blocks = tape.size() / 4;
        for (int i = 0; i < blocks; i++) {
            int[] old = block(i);
            int[] made;
            if (mode == 0) {
                made = back ? back(old) : enciphered(old);
            } else if (mode == 1) {
                made = back ? xored(back(old), before) : enciphered(xored(old, before));
                before = back ? old : made;
            } else {
                made = xored(old, enciphered(counterWords(count)));
                count = count.add(BigInteger.ONE);
            }
            for (int j = 0; j < 4; j++) {
                tape.set(4 * i + j, made[j]);
            }
        }
        return blocks;
    }

    long seal(int j) {
        index(j, 4);
        state(rounds != null);
        state(tape.size() % 4 == 0);
        int[] last = new int[4];
        for (int i = 0; i < tape.size() / 4; i++) {
            last = enciphered(xored(block(i), last));
        }
        return last[j];
    }

    int length() {
        return tape.size();
    }

    private int[] block(int i) {
        int[] words = new int[4];
        for (int j = 0; j < 4; j++) {
            words[j] = tape.get(4 * i + j);
        }
        return words;
    }

    private static int[] counterWords(BigInteger count) {
        int[] words = new int[4];
        for (int j = 0; j < 4; j++) {
            words[j] = count.shiftRight(32 * j).intValue();
        }
        return words;
    }

    private static int through(int which, int v, boolean back) {
        if (!back) {
            return BOX[which][v];
        }
        int n = 0;
        while (BOX[which][n] != v) {
            n++;
        }
        return n;
    }

    static int[] boxed(int[] words, int which, boolean back) {
        int[] made = new int[4];
        for (int place = 0; place < 32; place++) {
            int number = 0;
            for (int j = 0; j < 4; j++) {
                number += ((words[j] >>> place) & 1) << j;
            }
            int becomes = through(which, number, back);
            for (int j = 0; j < 4; j++) {
                made[j] |= ((becomes >> j) & 1) << place;
            }
        }
        return made;
    }

    static int[] xored(int[] x, int[] y) {
        int[] made = new int[4];
        for (int j = 0; j < 4; j++) {
            made[j] = x[j] ^ y[j];
        }
        return made;
    }

    private static int turned(int word, int by) {
        return (word << by) | (word >>> (32 - by));
    }

    private int[] enciphered(int[] words) {
        int[] x = words.clone();
        for (int r = 0; r < 32; r++) {
            x = boxed(xored(x, rounds[r]), r % 8, false);
            if (r != 31) {
                mixed(x);
            }
        }
        return xored(x, rounds[32]);
    }

    private int[] back(int[] words) {
        int[] x = xored(words, rounds[32]);
        for (int r = 31; r >= 0; r--) {
            if (r != 31) {
                unmixed(x);
            }
            x = xored(boxed(x, r % 8, true), rounds[r]);
        }
        return x;
    }

    static void mixed(int[] x) {
        x[0] = turned(x[0], 13);
        x[2] = turned(x[2], 3);
        x[1] ^= x[0] ^ x[2];
        x[3] ^= x[2] ^ (x[0] << 3);
        x[1] = turned(x[1], 1);
        x[3] = turned(x[3], 7);
        x[0] ^= x[1] ^ x[3];
        x[2] ^= x[3] ^ (x[1] << 7);
        x[0] = turned(x[0], 5);
        x[2] = turned(x[2], 22);
    }

    private static void unmixed(int[] x) {
        x[2] = turned(x[2], 10);
        x[0] = turned(x[0], 27);
        x[2] ^= x[3] ^ (x[1] << 7);
        x[0] ^= x[1] ^ x[3];
        x[3] = turned(x[3], 25);
        x[1] = turned(x[1], 31);
        x[3] ^= x[2] ^ (x[0] << 3);
        x[1] ^= x[0] ^ x[2];
        x[2] = turned(x[2], 29);
        x[0] = turned(x[0], 19);
    }

    private static void index(int i, int bound) {
        if (i < 0 || i >= bound) {
            throw new IndexOutOfBoundsException();
        }
    }

    private static void argument(boolean right) {
        if (!right) {
            throw new IllegalArgumentException();
        }
    }

    private static void state(boolean right) {
        if (!right) {
            throw new IllegalStateException();
        }
    }
}
