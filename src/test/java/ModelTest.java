import java.util.Random;

/** Long runs of calls by fixed seeds: the class answers each as the model does. */
public final class ModelTest {
    private static final int RUNS = 3000;
    private static final int CALLS = 512;
    private static final int[] ODD = {Integer.MIN_VALUE, -5, -1, 0, 1, 2, 3, 4, 7, 8, 9, 63, 64, 79, 80, 81, 2000, 2001,
        Integer.MAX_VALUE};

    private interface Call {
        int answer();
    }

    private final Random random;
    private final CoreTransactions x;
    private final Model model;
    private final int cores;
    private final StringBuilder told = new StringBuilder();
    private int retired;
    private int committed;
    private static final int[] codes = new int[6];

    private ModelTest(int seed) {
        random = new Random(seed);
        cores = 1 + random.nextInt(4);
        int sets = random.nextInt(3);
        int ways = 1 + random.nextInt(4);
        x = new CoreTransactions(cores, sets, ways);
        model = new Model(cores, sets, ways);
        told.append("new(").append(cores).append(", ").append(sets).append(", ").append(ways).append(")\n");
    }

    public static void main(String[] args) {
        long retired = 0;
        long committed = 0;
        for (int seed = 1; seed <= RUNS; seed++) {
            ModelTest run = new ModelTest(seed);
            if (!run.calls()) {
                System.out.println("seed " + seed + "\n" + run.told);
                System.exit(1);
            }
            retired += run.retired;
            committed += run.committed;
        }
        System.out.println("ModelTest: " + RUNS + " runs, retired " + retired + ", committed " + committed
                + ", broken off by code 1 to 5: " + codes[1] + " " + codes[2] + " " + codes[3] + " " + codes[4] + " "
                + codes[5] + ", by ABORT: " + codes[0]);
        boolean met = retired > 0 && committed > 0;
        for (int count : codes) {
            met = met && count > 0;
        }
        if (!met) {
            System.out.println("the runs do not meet all that they should");
            System.exit(1);
        }
    }

    private boolean calls() {
        for (int n = 0; n < CALLS; n++) {
            if (n == 0 || random.nextInt(150) == 0) {
                x.clear();
                model.clear();
                told.append("clear()\n");
                n += instructions();
            } else if (!oneCall(random.nextInt(24))) {
                return false;
            }
            if (n % 16 == 0 && !sameState()) {
                told.append("the states are not the same\n");
                return false;
            }
        }
        for (int core = 0; core < cores; core++) {
            retired += model.told(core, 2);
            committed += model.told(core, 8);
        }
        for (int k = 0; k < model.records(); k++) {
            int code = model.record(k, 2);
            codes[code >= 1 && code <= 5 ? code : 0]++;
        }
        return sameState();
    }

    /** A program of short loops over a few near words, so that the cores meet often. */
    private int instructions() {
        int many = random.nextInt(10) == 0 ? 82 : 5 + random.nextInt(30);
        int near = random.nextBoolean() ? 8 : 64;
        for (int n = 0; n < many; n++) {
            int kind = random.nextInt(20);
            int operation = kind < 14 ? kind : kind < 16 ? 5 : kind < 18 ? 6 : kind < 19 ? 10 : 11;
            if ((operation == 12 || operation == 13 || operation == 9) && random.nextInt(3) != 0) {
                operation = 10;
            }
            boolean jumps = operation >= 7 && operation <= 10;
            int a = random.nextInt(8);
            int b = operation == 5 || operation == 6 ? random.nextInt(12) / 10 : random.nextInt(8);
            int c = jumps ? random.nextInt(many + 1) : operation <= 3 ? random.nextInt(8) : random.nextInt(near);
            if (operation == 9 && random.nextInt(20) == 0) {
                c = odd();
            }
            give(operation, a, b, c);
        }
        return many;
    }

    private void give(int operation, int a, int b, int c) {
        same("instruction", operation, a, b * 1000 + c, () -> x.instruction(operation, a, b, c),
                () -> model.instruction(operation, a, b, c));
    }

    private boolean oneCall(int kind) {
        int core = random.nextInt(40) == 0 ? odd() : random.nextInt(cores);
        int word = random.nextInt(20) == 0 ? odd() : random.nextInt(random.nextBoolean() ? 8 : 64);
        int register = random.nextInt(20) == 0 ? odd() : random.nextInt(8);
        int v = random.nextInt(4) == 0 ? odd() : random.nextInt(70);
        int place = random.nextInt(10) == 0 ? odd() : random.nextInt(20);
        int times = random.nextInt(20) == 0 ? odd() : random.nextInt(random.nextInt(10) == 0 ? 2001 : 30);
        int seed = random.nextInt();
        int what = random.nextInt(20) == 0 ? odd() : random.nextInt(10);
        switch (kind) {
            case 0:
                int operation = random.nextInt(16) - 1;
                return same("instruction", operation, register, v, () -> x.instruction(operation, register, v, word),
                        () -> model.instruction(operation, register, v, word));
            case 1, 2, 3:
                return same("start", core, place, 0, () -> x.start(core, place), () -> model.start(core, place));
            case 4, 5:
                return same("set", core, register, v, () -> x.set(core, register, v),
                        () -> model.set(core, register, v));
            case 6:
                return same("poke", word, v, 0, () -> x.poke(word, v), () -> model.poke(word, v));
            case 7, 8, 9, 10, 11, 12, 13:
                return same("pick", core, times, 0, () -> x.pick(core, times), () -> model.pick(core, times));
            case 14, 15, 16, 17:
                return same("run", seed, times, 0, () -> x.run(seed, times), () -> model.run(seed, times));
            case 18:
                return same("register", core, register, 0, () -> x.register(core, register),
                        () -> model.register(core, register));
            case 19:
                return same("word", word, 0, 0, () -> x.word(word), () -> model.word(word));
            case 20:
                return same("seen", core, word, 0, () -> x.seen(core, word), () -> model.seen(core, word));
            case 21:
                return same("told", core, what, 0, () -> x.told(core, what), () -> model.told(core, what));
            case 22:
                return same("records", 0, 0, 0, x::records, model::records);
            default:
                int k = random.nextInt(5) == 0 ? odd() : random.nextInt(1 + model.records());
                int field = random.nextInt(8) == 0 ? odd() : random.nextInt(4);
                return same("record", k, field, 0, () -> x.record(k, field), () -> model.record(k, field));
        }
    }

    private int odd() {
        return ODD[random.nextInt(ODD.length)];
    }

    private boolean same(String call, int a, int b, int c, Call ours, Call theirs) {
        String got = outcome(ours);
        String due = outcome(theirs);
        told.append(call).append('(').append(a).append(", ").append(b).append(", ").append(c).append("): ")
                .append(got).append('\n');
        if (!got.equals(due)) {
            told.append("due is ").append(due).append('\n');
        }
        return got.equals(due);
    }

    private static String outcome(Call call) {
        try {
            return String.valueOf(call.answer());
        } catch (RuntimeException e) {
            return e.getClass().getSimpleName();
        }
    }

    private boolean sameState() {
        boolean same = x.records() == model.records();
        for (int word = 0; word < 64; word++) {
            same = same && x.word(word) == model.word(word);
        }
        for (int core = 0; core < cores; core++) {
            for (int what = 0; what < 10; what++) {
                same = same && x.told(core, what) == model.told(core, what);
            }
            for (int register = 0; register < 8; register++) {
                same = same && x.register(core, register) == model.register(core, register);
            }
            for (int word = 0; word < 64; word++) {
                same = same && x.seen(core, word) == model.seen(core, word);
            }
        }
        for (int k = 0; same && k < model.records(); k++) {
            for (int what = 0; what < 4; what++) {
                same = same && x.record(k, what) == model.record(k, what);
            }
        }
        return same;
    }
}
