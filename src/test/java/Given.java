/** Objects in the states that the tests of the edges begin with. */
final class Given {
    private Given() {
    }

    /** A byte of the told key: no two are alike, and none is the 0 or the 1 that stand behind a key. */
    static int keyByte(int n) {
        return 2 + 7 * n;
    }

    static int keyWord(int i) {
        int word = 0;
        for (int p = 0; p < 4; p++) {
            word |= keyByte(4 * i + p) << (8 * p);
        }
        return word;
    }

    static int startWord(int j) {
        return 0xC0FFEE00 + j;
    }

    static int tapeWord(int i) {
        return 0x9D2C5681 * (i + 1);
    }

    /** Key, size and start are told, nothing is ready, the tape is empty. */
    static SlicedCipher told(int bytes) {
        SlicedCipher x = new SlicedCipher();
        for (int i = 0; i < 8; i++) {
            x.key(i, keyWord(i));
        }
        x.size(bytes);
        for (int j = 0; j < 4; j++) {
            x.start(j, startWord(j));
        }
        return x;
    }

    static SlicedCipher ready(int bytes) {
        SlicedCipher x = told(bytes);
        x.ready();
        return x;
    }

    /** The tape of x gets so many words, and ends within a block if they are no multiple of four. */
    static SlicedCipher tape(SlicedCipher x, int words) {
        for (int i = 0; i < words; i += 4) {
            x.put(tapeWord(i), tapeWord(i + 1), tapeWord(i + 2), tapeWord(i + 3));
        }
        // The last block that was put may reach beyond what is wanted.
        x.cut(words);
        return x;
    }

    static SlicedCipher start(SlicedCipher x, int... words) {
        for (int j = 0; j < 4; j++) {
            x.start(j, words[j]);
        }
        return x;
    }

    static SlicedCipher block(SlicedCipher x, int... words) {
        x.put(words[0], words[1], words[2], words[3]);
        return x;
    }
}
