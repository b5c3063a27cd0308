import java.util.Random;

/** Promises 1 to 16 together: runs of up to 512 calls, each answer set against the plain desk's. */
public final class AgainstPlainDeskTest {
    private static final int RUNS = 1200;
    private static final int CALLS = 512;
    // Small sets of characters bring about names that look alike; the last one stands for all.
    private static final int[][] POOLS = {
        {0, 16, 32},
        {12, 13, 15, 28, 44, 115},
        {0, 104, 124, 110, 16},
        {1, 104, 105, 108, 109, 110, 111, 120, 125},
        {48, 49, 55, 72, 73, 64, 80, 88, 0},
        {14, 96, 100, 30, 11, 97, 101, 113, 114},
        {4, 20, 115, 113, 112, 118, 116, 126, 127},
        {0, 5, 48, 64, 72, 80, 88, 100, 96, 104},
        {},
    };

    private final Random random;
    private final int[] pool;
    private final LookalikeDesk desk = new LookalikeDesk();
    private final PlainDesk plain = new PlainDesk();
    private final Check check;

    private AgainstPlainDeskTest(Check check, int seed) {
        this.check = check;
        random = new Random(seed);
        pool = POOLS[seed % POOLS.length];
    }

    public static void main(String[] args) {
        Check check = new Check();
        for (int seed = 0; seed < RUNS; seed++) {
            new AgainstPlainDeskTest(check, seed).run();
        }
        check.end();
    }

    private void run() {
        for (int call = 0; call < CALLS; call++) {
            step();
        }
    }

    private void step() {
        switch (random.nextInt(18)) {
            case 0, 1, 2, 3 -> type();
            case 4 -> same("wipe", desk::wipe, plain::wipe);
            case 5 -> same("skeleton", desk::skeleton, plain::skeleton);
            case 6 -> askOne("skeletonAt", random.nextInt(-2, 60));
            case 7 -> same("scripts", desk::scripts, plain::scripts);
            case 8 -> same("level", desk::level, plain::level);
            case 9 -> same("odd", desk::odd, plain::odd);
            case 10 -> same("words", desk::words, plain::words);
            case 11 -> word(random.nextInt(-1, 8), random.nextInt(-1, 5));
            case 12, 13 -> same("register", desk::register, plain::register);
            case 14 -> askOne(random.nextInt(3) == 0 ? "withdraw" : "ranked", random.nextInt(-1, 13));
            case 15 -> nameAt(random.nextInt(-1, 13), random.nextInt(-1, 12));
            case 16 -> askOne("alike", random.nextInt(-1, 13));
            default -> askOne("lookalike", random.nextInt(-3, 14));
        }
    }

    private void type() {
        int n = random.nextInt(40) == 0 ? random.nextInt(-2, 12) : random.nextInt(1, random.nextBoolean() ? 4 : 9);
        long packed = 0;
        for (int i = 0; i < 8; i++) {
            packed = packed << 8 | (random.nextInt(300) == 0 ? random.nextInt(256) : character());
        }
        long typed = packed;
        same("type(" + typed + ", " + n + ")", () -> desk.type(typed, n), () -> plain.type(typed, n));
        if (random.nextInt(6) == 0) {
            same("wipe", desk::wipe, plain::wipe);
        }
    }

    private int character() {
        return pool.length == 0 ? random.nextInt(128) : pool[random.nextInt(pool.length)];
    }

    private void word(int i, int what) {
        same("word(" + i + ", " + what + ")", () -> desk.word(i, what), () -> plain.word(i, what));
    }

    private void nameAt(int name, int i) {
        same("nameAt(" + name + ", " + i + ")", () -> desk.nameAt(name, i), () -> plain.nameAt(name, i));
    }

    private void askOne(String call, int i) {
        String what = call + "(" + i + ")";
        switch (call) {
            case "skeletonAt" -> same(what, () -> desk.skeletonAt(i), () -> plain.skeletonAt(i));
            case "withdraw" -> same(what, () -> desk.withdraw(i), () -> plain.withdraw(i));
            case "ranked" -> same(what, () -> desk.ranked(i), () -> plain.ranked(i));
            case "alike" -> same(what, () -> desk.alike(i), () -> plain.alike(i));
            default -> same(what, () -> desk.lookalike(i), () -> plain.lookalike(i));
        }
    }

    private void same(String what, Check.Call call, Check.Call due) {
        check.due(what, Check.outcome(call), Check.outcome(due));
    }
}
