import java.util.Arrays;
import java.util.function.ToIntFunction;

/** Counts and prints the answers that are not as due, and makes desks with a text on them. */
final class Check {
    private static final int TYPED_AT_ONCE = 8;
    private static final int TEXT_LIMIT = 48;
    private static final int NAME_LIMIT = 12;

    private int wrong = 0;
    private String sentence = "";

    interface Call {
        int answer();
    }

    static LookalikeDesk desk(int... characters) {
        LookalikeDesk desk = new LookalikeDesk();
        put(desk, characters);
        return desk;
    }

    /** Wipes the desk's text and types the characters. */
    static void put(LookalikeDesk desk, int... characters) {
        desk.wipe();
        add(desk, characters);
    }

    static void add(LookalikeDesk desk, int... characters) {
        for (int from = 0; from < characters.length; from += TYPED_AT_ONCE) {
            int n = Math.min(TYPED_AT_ONCE, characters.length - from);
            desk.type(packed(characters, from, n), n);
        }
    }

    static long packed(int... characters) {
        return packed(characters, 0, characters.length);
    }

    private static long packed(int[] characters, int from, int n) {
        long packed = 0;
        for (int i = 0; i < n; i++) {
            packed = packed << 8 | characters[from + i];
        }
        return packed;
    }

    static int[] repeated(int character, int times) {
        int[] row = new int[times];
        Arrays.fill(row, character);
        return row;
    }

    static int[] skeletonOf(LookalikeDesk desk) {
        int[] row = new int[desk.skeleton()];
        for (int i = 0; i < row.length; i++) {
            row[i] = desk.skeletonAt(i);
        }
        return row;
    }

    static int registered(LookalikeDesk desk, int... characters) {
        put(desk, characters);
        return desk.register();
    }

    static int[] row(int... characters) {
        return characters;
    }

    /** Filler characters and behind them the last ones, 48 together: as long as a text can be. */
    static int[] fullText(int filler, int... last) {
        int[] row = repeated(filler, TEXT_LIMIT);
        System.arraycopy(last, 0, row, TEXT_LIMIT - last.length, last.length);
        return row;
    }

    /** Numbers just and far outside of 0 .. count - 1, those among them that a cut to fewer bits would bring inside. */
    static int[] outside(int count) {
        return row(-1, -2, -256, Integer.MIN_VALUE, Integer.MIN_VALUE + 1,
                count, count + 1, 256, 65536, 1 << 29, Integer.MAX_VALUE - 1, Integer.MAX_VALUE);
    }

    /** Twelve names of two letters each, of which no two look alike; the last one's text lies on the desk. */
    static LookalikeDesk fullRegister() {
        LookalikeDesk desk = new LookalikeDesk();
        for (int i = 0; i < NAME_LIMIT; i++) {
            registered(desk, 11 - i, i);
        }
        return desk;
    }

    /** Tells which sentence of the document asks for the answers that are looked at from now on. */
    void sentence(String words) {
        sentence = "'" + words + "': ";
    }

    void due(String what, int got, int want) {
        due(what, String.valueOf(got), String.valueOf(want));
    }

    void dueRow(String what, int[] got, int... want) {
        due(what, Arrays.toString(got), Arrays.toString(want));
    }

    /** What a new desk answers with this text on it. */
    void dueOf(String what, ToIntFunction<LookalikeDesk> call, int want, int... text) {
        due(what + " of " + Arrays.toString(text), call.applyAsInt(desk(text)), want);
    }

    void dueScripts(int want, int... text) {
        dueOf("scripts", LookalikeDesk::scripts, want, text);
    }

    void dueLevel(int want, int... text) {
        dueOf("level", LookalikeDesk::level, want, text);
    }

    void dueOdd(int want, int... text) {
        dueOf("odd", LookalikeDesk::odd, want, text);
    }

    void dueSkeleton(int[] text, int... want) {
        dueRow("skeleton of " + Arrays.toString(text), skeletonOf(desk(text)), want);
    }

    /** The words of a text are due as begin, length, begin, length, .. */
    void dueWords(int[] text, int... want) {
        LookalikeDesk desk = desk(text);
        int[] got = new int[2 * desk.words()];
        for (int i = 0; i < got.length; i++) {
            got[i] = desk.word(i / 2, i % 2);
        }
        dueRow("words of " + Arrays.toString(text), got, want);
    }

    void due(String what, String got, String want) {
        if (!got.equals(want)) {
            wrong++;
            System.out.println(sentence + what + " answered " + got + ", due is " + want);
        }
    }

    void dueThrow(String what, Class<? extends RuntimeException> want, Call call) {
        due(what, outcome(call), "throws." + want.getSimpleName());
    }

    /** The answer of a call, or the exact class of what it throws. */
    static String outcome(Call call) {
        try {
            return String.valueOf(call.answer());
        } catch (RuntimeException e) {
            return "throws." + e.getClass().getSimpleName();
        }
    }

    void end() {
        if (wrong != 0) {
            System.out.println(wrong + " answers are not as due");
            System.exit(1);
        }
    }
}
