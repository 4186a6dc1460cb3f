/** What can be seen of an object. */
final class Look {
    private Look() {
    }

    /**
     * All of its state in one text: the tape, what is ready, the round keys, the start and the key's
     * bytes, also those that do not count. The looking changes the object, so it is the last thing done
     * with it, and takes less than 330 of its calls.
     */
    static String atAll(SlicedCipher x) {
        StringBuilder seen = new StringBuilder("tape").append(tape(x)).append("; seal");
        for (int j = 0; j < 4; j++) {
            int at = j;
            seen.append(' ').append(Check.outcome(() -> x.seal(at)));
        }
        seen.append("; round ").append(Check.outcome(() -> x.round(0, 0)));
        x.cut(0);
        x.put(1, 2, 3, 4);
        // One enciphered block needs every word of every round key.
        seen.append("; run ").append(Check.outcome(() -> x.run(0, false))).append(tape(x));
        x.ready();
        seen.append("; told key").append(firstRoundKeys(x));
        x.cut(0);
        x.put(0, 0, 0, 0);
        x.run(2, false);
        seen.append("; start").append(tape(x));
        x.size(32);
        x.ready();
        return seen.append("; whole key").append(firstRoundKeys(x)).toString();
    }

    /** The words of the tape, up to the first that it has not. */
    static String tape(SlicedCipher x) {
        StringBuilder seen = new StringBuilder();
        for (int i = 0; i <= 256; i++) {
            int at = i;
            String outcome = Check.outcome(() -> x.word(at));
            seen.append(' ').append(outcome);
            if (outcome.startsWith("throws")) {
                break;
            }
        }
        return seen.toString();
    }

    /** All 132 words of the round keys. */
    static String rounds(SlicedCipher x) {
        StringBuilder seen = new StringBuilder();
        for (int r = 0; r <= 32; r++) {
            for (int j = 0; j < 4; j++) {
                seen.append(' ').append(x.round(r, j));
            }
        }
        return seen.toString();
    }

    // Eight words made of k(-8) .. k(-1) by steps that can be undone: no two keys share them.
    private static String firstRoundKeys(SlicedCipher x) {
        StringBuilder seen = new StringBuilder();
        for (int n = 0; n < 8; n++) {
            seen.append(' ').append(x.round(n / 4, n % 4));
        }
        return seen.toString();
    }
}
