/** Promises 9 and 10: words and word. */
public final class WordsTest {
    public static void main(String[] args) {
        Check check = new Check();
        singleCharacters(check);
        piecesBehind(check);
        joined(check);
        manyWords(check);
        wordsAlike(check);
        namesAlike(check);
        wrongArguments(check);
        check.end();
    }

    private static void singleCharacters(Check check) {
        check.dueWords(Check.row());
        for (int c = 0; c < 128; c++) {
            if (c <= 95 || c >= 124) {
                check.dueWords(Check.row(c), 0, 1);
            } else {
                check.dueWords(Check.row(c));
            }
        }
    }

    private static void piecesBehind(Check check) {
        for (int c = 0; c < 128; c++) {
            if (c <= 112 || c >= 124) {
                check.dueWords(Check.row(115, 1, c), 1, 2);
                check.dueWords(Check.row(1, 113, c), 0, 3);
                check.dueWords(Check.row(1, 114, c), 0, 3);
            } else {
                check.dueWords(Check.row(115, 1, c), 1, 1);
                check.dueWords(Check.row(1, 113, c), 0, 1);
                check.dueWords(Check.row(1, 114, c, 2), 0, 1, 3, 1);
            }
        }
    }

    private static void joined(Check check) {
        check.dueWords(Check.row(1, 113), 0, 1);
        check.dueWords(Check.row(1, 113, 2, 114), 0, 3);
        check.dueWords(Check.row(1, 113, 2, 114, 104, 113, 112), 0, 7);
        check.dueWords(Check.row(1, 113, 113, 2), 0, 1, 3, 1);
        check.dueWords(Check.row(1, 113, 114, 2), 0, 1, 3, 1);
        check.dueWords(Check.row(113, 1), 1, 1);
        check.dueWords(Check.row(112, 1), 1, 1);
        check.dueWords(Check.row(96, 104, 1, 97), 2, 2);
        check.dueWords(Check.row(96, 112, 104, 103));
        check.dueWords(Check.row(1, 120, 2), 0, 1, 2, 1);
    }

    private static void manyWords(Check check) {
        int[] text = new int[48];
        for (int i = 0; i < 48; i++) {
            text[i] = i % 2 == 0 ? 3 : 115;
        }
        LookalikeDesk desk = Check.desk(text);
        check.due("every other one a word", desk.words(), 24);
        check.due("the last one's begin", desk.word(23, 0), 46);
        check.due("the last one's length", desk.word(23, 1), 1);
        LookalikeDesk one = Check.desk(Check.repeated(3, 48));
        check.due("one long word", one.words(), 1);
        check.due("its length", one.word(0, 1), 48);
    }

    private static void wordsAlike(Check check) {
        // 0 and 16 and 32 look alike; 17 looks like none of them.
        LookalikeDesk desk = Check.desk(0, 115, 17, 115, 16, 115, 0, 115, 16, 115, 32, 115, 17);
        int[] due = {LookalikeDesk.NONE, LookalikeDesk.NONE, 0, 2, 0, 0, LookalikeDesk.NONE};
        check.due("words", desk.words(), due.length);
        for (int i = 0; i < due.length; i++) {
            check.due("word(" + i + ", 2)", desk.word(i, 2), due[i]);
            check.due("word(" + i + ", 3) without names", desk.word(i, 3), LookalikeDesk.NONE);
        }
        LookalikeDesk composed = Check.desk(124, 115, 0, 104, 115, 13, 15, 115, 12);
        check.due("a composed one and its parts", composed.word(1, 2), 0);
        check.due("a later pair", composed.word(3, 2), 2);
        LookalikeDesk prefix = Check.desk(16, 115, 0, 0);
        check.due("a skeleton that goes on", prefix.word(1, 2), LookalikeDesk.NONE);
    }

    private static void namesAlike(Check check) {
        LookalikeDesk desk = new LookalikeDesk();
        Check.registered(desk, 16);
        Check.registered(desk, 0);
        Check.registered(desk, 13, 15);
        Check.put(desk, 0, 115, 16, 115, 32, 115, 12, 115, 5);
        int[] due = {0, 1, 0, 2, LookalikeDesk.NONE};
        for (int i = 0; i < due.length; i++) {
            check.due("word(" + i + ", 3)", desk.word(i, 3), due[i]);
        }
        check.due("the text itself stays", desk.wipe(), 9);
    }

    private static void wrongArguments(Check check) {
        LookalikeDesk desk = Check.desk(1, 115, 2);
        for (int i : new int[] {-1, 2, 24, 48, Integer.MIN_VALUE, Integer.MAX_VALUE}) {
            for (int what = -1; what <= 4; what++) {
                int asked = what;
                check.dueThrow("word(" + i + ", " + what + ")", IllegalArgumentException.class,
                        () -> desk.word(i, asked));
            }
        }
        for (int what : new int[] {-1, 4, Integer.MIN_VALUE, Integer.MAX_VALUE}) {
            check.dueThrow("word(0, " + what + ")", IllegalArgumentException.class, () -> desk.word(0, what));
        }
        Check.put(desk, 1);
        check.dueThrow("a word of the text before", IllegalArgumentException.class, () -> desk.word(1, 0));
    }
}
