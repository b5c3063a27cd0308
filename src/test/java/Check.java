/** Counts and prints the answers that are not as due, and makes desks with a text on them. */
final class Check {
    private static final int TYPED_AT_ONCE = 8;

    private int wrong = 0;

    interface Call {
        int answer();
    }

    static LookalikeDesk desk(int... characters) {
        LookalikeDesk desk = new LookalikeDesk();
        put(desk, characters);
        return desk;
    }

    /** Wipes the desk's text and types the characters. */
    static void put(LookalikeDesk desk, int... characters) {
        desk.wipe();
        add(desk, characters);
    }

    static void add(LookalikeDesk desk, int... characters) {
        for (int from = 0; from < characters.length; from += TYPED_AT_ONCE) {
            int n = Math.min(TYPED_AT_ONCE, characters.length - from);
            desk.type(packed(characters, from, n), n);
        }
    }

    static long packed(int... characters) {
        return packed(characters, 0, characters.length);
    }

    private static long packed(int[] characters, int from, int n) {
        long packed = 0;
        for (int i = 0; i < n; i++) {
            packed = packed << 8 | characters[from + i];
        }
        return packed;
    }

    static int[] repeated(int character, int times) {
        int[] row = new int[times];
        java.util.Arrays.fill(row, character);
        return row;
    }

    static int[] skeletonOf(LookalikeDesk desk) {
        int[] row = new int[desk.skeleton()];
        for (int i = 0; i < row.length; i++) {
            row[i] = desk.skeletonAt(i);
        }
        return row;
    }

    static int registered(LookalikeDesk desk, int... characters) {
        put(desk, characters);
        return desk.register();
    }

    void due(String what, int got, int want) {
        due(what, String.valueOf(got), String.valueOf(want));
    }

    void dueRow(String what, int[] got, int... want) {
        due(what, java.util.Arrays.toString(got), java.util.Arrays.toString(want));
    }

    void due(String what, String got, String want) {
        if (!got.equals(want)) {
            wrong++;
            System.out.println(what + " answered " + got + ", due is " + want);
        }
    }

    void dueThrow(String what, Class<? extends RuntimeException> want, Call call) {
        due(what, outcome(call), "throws." + want.getSimpleName());
    }

    /** The answer of a call, or the exact class of what it throws. */
    static String outcome(Call call) {
        try {
            return String.valueOf(call.answer());
        } catch (RuntimeException e) {
            return "throws." + e.getClass().getSimpleName();
        }
    }

    void end() {
        if (wrong != 0) {
            System.out.println(wrong + " answers are not as due");
            System.exit(1);
        }
    }
}
