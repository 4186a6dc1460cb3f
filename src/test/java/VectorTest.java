/**
 * Promises 2 to 4, 7 and 11: with keys of 16, 24 and 32 bytes the document's cipher is the one
 * known as Serpent, so answers of others hold here (all were made again with libgcrypt 1.10).
 * They are bytes, each word's lowest one first.
 */
public final class VectorTest {
    private static final Check CHECK = new Check("VectorTest");
    private static final String ZEROS = "00".repeat(32);
    private static final String KEY = steps(32, 7, 3);
    private static final String START = steps(16, 11, 200);
    private static final String PLAIN = steps(64, 29, 5);

    public static void main(String[] args) {
        vector(ZEROS.substring(0, 32), 0, "d29d576fcea3a3a7ed9099f29273d78e", "b2288b968ae8b08648d1ce9606fd992d");
        vector(ZEROS.substring(0, 48), 0, "d29d576fceaba3a7ed9899f2927bd78e", "130e353e1037c22405e8faefb2c3c3e9");
        vector(ZEROS, 0, "d095576fcea3e3a7ed98d9f29073d78e", "b90ee5862de69168f2bdd5125b45472b");
        vector(ZEROS, 0, "00000000010000000200000003000000", "2061a42782bd52ec691ec383b03ba77c");
        vector(KEY.substring(0, 32), 0, PLAIN,
                "92d8abd2d0924803a209298dac3b66c4d08de8546147e3f46a7c1768a2ec82e2"
                + "bf54bc752dcc643f0af891895e20bea2ec65fe59100f0bc2f358ac2bb1158c57");
        vector(KEY.substring(0, 32), 1, PLAIN,
                "076e5c5eb1aac37ee305d985485b5fe4d5c725a40479b2d7505dd28c6c634bae"
                + "b92e7feb0665fd36ba359f0145d742c86e817d657b77c11c9b37e63dc0044153");
        vector(KEY.substring(0, 48), 0, PLAIN,
                "f524e4ef5acfe45c690f34ee7e7ef1f5e7395cebd1e8c9376e69c6c193f267b8"
                + "70902d1bb03659250c19e8bbe1d9a833d3b61894efcb4efab72e4950e2c1a192");
        vector(KEY.substring(0, 48), 1, PLAIN,
                "38df388f11771ef716c7836e3ad6890a0c5356dcf1e722d5a3621e4e786f2f40"
                + "abea148700e4192c4d6972ffb50279a0e2757692946491bd47ccba6d1f071b5e");
        vector(KEY, 0, PLAIN,
                "068e66fc6e2284e211691a8d6d07f201592a92eb414f18935920d9d85645dcf2"
                + "ae6f44038757375cfa20f423815d048a9446925d58b96b14987402d353ea7a2d");
        vector(KEY, 1, PLAIN,
                "06bc31f2df74f068d5b81e7fff6410d8946f2a848b431dd255d557a37987e0b9"
                + "89b7f37ff5ea513a39a88f1437081f83efb51c9f2b7954536d77b5b09afbe400");
        CHECK.end();
    }

    private static void vector(String key, int mode, String plain, String secret) {
        SlicedCipher x = new SlicedCipher();
        for (int i = 0; i < key.length() / 8; i++) {
            x.key(i, word(key, i));
        }
        x.size(key.length() / 2);
        x.ready();
        for (int j = 0; j < 4; j++) {
            x.start(j, word(START, j));
        }
        int blocks = plain.length() / 32;
        for (int i = 0; i < blocks; i++) {
            x.put(word(plain, 4 * i), word(plain, 4 * i + 1), word(plain, 4 * i + 2), word(plain, 4 * i + 3));
        }
        CHECK.due("blocks", x.run(mode, false), blocks);
        CHECK.dueText("mode " + mode + " of " + plain, tape(x, blocks), secret);
        CHECK.due("blocks", x.run(mode, true), blocks);
        CHECK.dueText("mode " + mode + " back of " + secret, tape(x, blocks), plain);
    }

    private static String steps(int bytes, int step, int first) {
        StringBuilder text = new StringBuilder();
        for (int i = 0; i < bytes; i++) {
            text.append(String.format("%02x", (step * i + first) & 255));
        }
        return text.toString();
    }

    private static int word(String bytes, int i) {
        return Integer.reverseBytes(Integer.parseUnsignedInt(bytes.substring(8 * i, 8 * i + 8), 16));
    }

    private static String tape(SlicedCipher x, int blocks) {
        StringBuilder text = new StringBuilder();
        for (int i = 0; i < 4 * blocks; i++) {
            text.append(String.format("%08x", Integer.reverseBytes(x.word(i))));
        }
        return text.toString();
    }
}
