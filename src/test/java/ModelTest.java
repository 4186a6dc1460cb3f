import java.util.Random;

/** All promises: runs of chosen calls on the program and on the model, answer by answer. */
public final class ModelTest {
    private static final Check CHECK = new Check("ModelTest");
    private static final int[] ODD = {Integer.MIN_VALUE, -2, -1, 0, 1, 3, 4, 5, 7, 8, 15, 16, 31, 32, 33,
        252, 253, 255, 256, 257, Integer.MAX_VALUE};

    public static void main(String[] args) {
        for (int run = 0; run < 600; run++) {
            // A fixed seed, so that a failing run can be run again.
            compare(run, new Random(1000 + run));
        }
        CHECK.end();
    }

    private static void compare(int run, Random random) {
        SlicedCipher x = new SlicedCipher();
        Model m = new Model();
        // With the words told in the end no object gets more than its 512 calls.
        int calls = 60 + random.nextInt(130);
        boolean longTape = random.nextInt(4) == 0;
        for (int n = 0; longTape && n < 60; n++) {
            int a = random.nextInt();
            same("run " + run + " first put", () -> x.put(a, other(a), 1, a), () -> m.put(a, other(a), 1, a));
        }
        for (int n = 0; n < calls; n++) {
            step(run + "." + n, x, m, random, longTape);
        }
        for (int i = 0; i <= m.length(); i++) {
            int at = i;
            same("run " + run + " end word " + i, () -> x.word(at), () -> m.word(at));
        }
    }

    private static void step(String where, SlicedCipher x, Model m, Random random, boolean longTape) {
        int a = number(random);
        int b = number(random);
        int c = number(random);
        int d = number(random);
        boolean back = random.nextBoolean();
        int small = random.nextInt(6) - 1;
        switch (random.nextInt(longTape ? 24 : 20)) {
            case 0, 1 -> {
                int i = random.nextInt(8) == 0 ? a : random.nextInt(8);
                same(where + " key", () -> done(() -> x.key(i, b)), () -> m.key(i, b));
            }
            case 2 -> {
                int bytes = random.nextInt(4) == 0 ? a : random.nextInt(33);
                same(where + " size " + bytes, () -> done(() -> x.size(bytes)), () -> m.size(bytes));
            }
            case 3, 4, 5, 6 -> same(where + " ready", () -> done(x::ready), m::ready);
            case 7 -> {
                int r = random.nextInt(5) == 0 ? a : random.nextInt(33);
                same(where + " round", () -> x.round(r, small), () -> m.round(r, small));
            }
            case 8 -> {
                int which = random.nextInt(10) - 1;
                int v = random.nextInt(5) == 0 ? a : random.nextInt(16);
                same(where + " box", () -> x.box(which, v, back), () -> m.box(which, v, back));
            }
            case 9, 10 -> same(where + " start", () -> done(() -> x.start(small, b)), () -> m.start(small, b));
            case 11 -> {
                int n = longTape ? a : random.nextInt(3) == 0 ? a : random.nextInt(m.length() + 2);
                same(where + " cut " + n, () -> x.cut(n), () -> m.cut(n));
            }
            case 12, 13 -> {
                int i = random.nextInt(4) == 0 ? a : random.nextInt(m.length() + 1);
                same(where + " word " + i, () -> x.word(i), () -> m.word(i));
            }
            case 14, 15, 16 -> same(where + " run " + small + back,
                    () -> x.run(small, back), () -> m.run(small, back));
            case 17 -> same(where + " seal " + small, () -> x.seal(small), () -> m.seal(small));
            default -> same(where + " put", () -> x.put(a, b, c, d), () -> m.put(a, b, c, d));
        }
    }

    private static int other(int a) {
        return a * 31 + 7;
    }

    private static int number(Random random) {
        return random.nextInt(3) == 0 ? ODD[random.nextInt(ODD.length)] : random.nextInt();
    }

    private static long done(Check.Deed deed) {
        deed.act();
        return 0;
    }

    private static void same(String what, Check.Call program, Check.Call model) {
        CHECK.dueText(what, Check.outcome(program), Check.outcome(model));
    }
}
