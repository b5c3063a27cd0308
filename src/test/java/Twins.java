import java.util.ArrayList;
import java.util.List;
import java.util.Random;

/** Writes texts another way that looks like them, since characters drawn at random seldom look alike. */
final class Twins {
    // The characters of a row have one prototype.
    private static final int[][] SINGLE = {
        {0, 16, 32}, {2, 18}, {3, 35}, {4, 20}, {6, 22, 38}, {8, 24}, {9, 41}, {10, 26}, {11, 97, 101},
        {12, 28, 44}, {14, 30, 96, 100}, {15, 47}, {48, 72}, {49, 73}, {50, 74}, {105, 109},
    };
    // The first of a row looks like the other two, one behind the other.
    private static final int[][] PAIRS = {
        {12, 13, 15}, {55, 49, 49}, {118, 114, 114}, {124, 0, 104}, {125, 4, 105}, {126, 8, 106}, {127, 12, 107},
    };

    private final Random random;

    Twins(Random random) {
        this.random = random;
    }

    List<Integer> of(List<Integer> text) {
        List<Integer> twin = new ArrayList<>();
        for (int i = 0; i < text.size(); i++) {
            int[] pair = pairAt(text, i);
            if (pair != null && random.nextBoolean()) {
                twin.add(pair[0]);
                i++;
            } else {
                addTwin(twin, text.get(i));
            }
            if (random.nextInt(12) == 0) {
                twin.add(random.nextInt(120, 124));
            }
        }
        return twin;
    }

    private static int[] pairAt(List<Integer> text, int i) {
        for (int[] pair : PAIRS) {
            if (i + 1 < text.size() && pair[1] == text.get(i) && pair[2] == text.get(i + 1)) {
                return pair;
            }
        }
        return null;
    }

    private void addTwin(List<Integer> twin, int c) {
        for (int[] pair : PAIRS) {
            if (pair[0] == c && random.nextBoolean()) {
                twin.addAll(List.of(pair[1], pair[2]));
                return;
            }
        }
        twin.add(singleTwin(c));
    }

    private int singleTwin(int c) {
        for (int[] row : SINGLE) {
            for (int one : row) {
                if (one == c) {
                    return row[random.nextInt(row.length)];
                }
            }
        }
        return c;
    }
}
