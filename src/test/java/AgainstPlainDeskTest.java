import java.util.ArrayList;
import java.util.List;
import java.util.Random;

/** Promises 1 to 16 together: runs of 512 calls, each answer set against the plain desk's. */
public final class AgainstPlainDeskTest {
    private static final int RUNS = 1200;
    private static final int CALLS = 512;
    private static final int TEXT_LIMIT = 48;
    private static final int SPACE = 115;
    // Small sets of characters bring about names that look alike; the last one stands for all.
    private static final int[][] POOLS = {
        {0, 16, 32},
        {12, 13, 15, 28, 44, 115},
        {0, 104, 124, 110, 16},
        {1, 104, 105, 108, 109, 110, 111, 120, 125},
        {48, 49, 55, 72, 73, 64, 80, 88, 0},
        {14, 96, 100, 30, 11, 97, 101, 113, 114},
        {4, 20, 115, 113, 112, 118, 116, 126, 127},
        {0, 5, 48, 64, 72, 80, 88, 100, 96, 104},
        {},
    };

    private final Random random;
    private final Twins twins;
    private final int[] pool;
    private final LookalikeDesk desk = new LookalikeDesk();
    private final PlainDesk plain = new PlainDesk();
    private final Check check;
    private int calls = 0;

    private AgainstPlainDeskTest(Check check, int seed) {
        this.check = check;
        random = new Random(seed);
        twins = new Twins(random);
        pool = POOLS[seed % POOLS.length];
    }

    public static void main(String[] args) {
        Check check = new Check();
        for (int seed = 0; seed < RUNS; seed++) {
            new AgainstPlainDeskTest(check, seed).run();
        }
        check.end();
    }

    private void run() {
        while (calls < CALLS) {
            step();
        }
    }

    private void step() {
        switch (random.nextInt(22)) {
            case 0, 1, 2, 3 -> type();
            case 4 -> same("wipe", desk::wipe, plain::wipe);
            case 5 -> same("skeleton", desk::skeleton, plain::skeleton);
            case 6 -> askOne("skeletonAt", random.nextInt(-2, 60));
            case 7 -> same("scripts", desk::scripts, plain::scripts);
            case 8 -> same("level", desk::level, plain::level);
            case 9 -> same("odd", desk::odd, plain::odd);
            case 10 -> same("words", desk::words, plain::words);
            case 11 -> word(random.nextInt(-1, 8), random.nextInt(-1, 5));
            case 12, 13 -> same("register", desk::register, plain::register);
            case 14 -> askOne(random.nextInt(3) == 0 ? "withdraw" : "ranked", random.nextInt(-1, 13));
            case 15 -> nameAt(random.nextInt(-1, 13), random.nextInt(-1, 12));
            case 16 -> askOne("alike", random.nextInt(-1, 13));
            case 17, 18 -> putTwin();
            case 19 -> askLikenesses();
            case 20 -> askWords();
            default -> askOne("lookalike", random.nextInt(-3, 14));
        }
    }

    private void type() {
        int n = random.nextInt(40) == 0 ? random.nextInt(-2, 12) : random.nextInt(1, random.nextBoolean() ? 4 : 9);
        long packed = 0;
        for (int i = 0; i < 8; i++) {
            packed = packed << 8 | (random.nextInt(300) == 0 ? random.nextInt(256) : character());
        }
        type(packed, n);
        if (random.nextInt(6) == 0) {
            same("wipe", desk::wipe, plain::wipe);
        }
    }

    /** A name written another way; often with words before it and behind it that look like names too. */
    private void putTwin() {
        if (plain.names().isEmpty()) {
            return;
        }
        List<Integer> text = new ArrayList<>(anyTwin());
        for (int more = random.nextInt(4); more > 0; more--) {
            text.add(SPACE);
            text.addAll(anyTwin());
        }
        same("wipe", desk::wipe, plain::wipe);
        typeAll(text.subList(0, Math.min(text.size(), TEXT_LIMIT)));
    }

    private List<Integer> anyTwin() {
        return twins.of(plain.names().get(random.nextInt(plain.names().size())));
    }

    private void typeAll(List<Integer> text) {
        for (int from = 0; from < text.size(); from += 8) {
            List<Integer> part = text.subList(from, Math.min(from + 8, text.size()));
            long typed = Check.packed(part.stream().mapToInt(c -> c).toArray());
            type(typed, part.size());
        }
    }

    private void askLikenesses() {
        for (int name = 0; name < plain.names().size(); name++) {
            askOne("alike", name);
            askOne("ranked", name);
            askOne("lookalike", name);
        }
    }

    private void askWords() {
        for (int i = 0; i < plain.words(); i++) {
            word(i, 2);
            word(i, 3);
        }
    }

    private int character() {
        return pool.length == 0 ? random.nextInt(128) : pool[random.nextInt(pool.length)];
    }

    private void word(int i, int what) {
        same("word(" + i + ", " + what + ")", () -> desk.word(i, what), () -> plain.word(i, what));
    }

    private void nameAt(int name, int i) {
        same("nameAt(" + name + ", " + i + ")", () -> desk.nameAt(name, i), () -> plain.nameAt(name, i));
    }

    private void askOne(String call, int i) {
        String what = call + "(" + i + ")";
        switch (call) {
            case "skeletonAt" -> same(what, () -> desk.skeletonAt(i), () -> plain.skeletonAt(i));
            case "withdraw" -> same(what, () -> desk.withdraw(i), () -> plain.withdraw(i));
            case "ranked" -> same(what, () -> desk.ranked(i), () -> plain.ranked(i));
            case "alike" -> same(what, () -> desk.alike(i), () -> plain.alike(i));
            default -> same(what, () -> desk.lookalike(i), () -> plain.lookalike(i));
        }
    }

    private void type(long typed, int n) {
        same("type(" + typed + ", " + n + ")", () -> desk.type(typed, n), () -> plain.type(typed, n));
    }

    private void same(String what, Check.Call call, Check.Call due) {
        // What a desk answers behind its 512th call is free.
        if (calls == CALLS) {
            return;
        }
        calls++;
        check.due(what, Check.outcome(call), Check.outcome(due));
    }
}
