/** Promises 9 and 10, and the terms that they use: a test for each sentence that names a boundary case. */
public final class WordEdgesTest {
    private static final int NONE = LookalikeDesk.NONE;

    public static void main(String[] args) {
        Check check = new Check();
        beginningsOfIdentifiers(check);
        anyNumberOfPieces(check);
        kindsOfPieces(check);
        behindADashOrDot(check);
        firstCharacter(check);
        goingOn(check);
        nextCharacter(check);
        howManyWords(check);
        whereItBegins(check);
        howLongItIs(check);
        firstWordBefore(check);
        firstName(check);
        noSuchWord(check);
        noSuchQuestion(check);
        check.end();
    }

    private static void beginningsOfIdentifiers(Check check) {
        check.sentence("An IDENTIFIER is a letter (a composed one too)");
        for (int c : Check.row(0, 95, 124, 127)) {
            check.dueWords(Check.row(c), 0, 1);
        }
        for (int c : Check.row(96, 103, 104, 111, 112, 113, 114, 115, 123)) {
            check.dueWords(Check.row(c));
        }
    }

    private static void anyNumberOfPieces(Check check) {
        check.sentence("and behind it any number of pieces");
        check.dueWords(Check.row(0), 0, 1);
        check.dueWords(Check.row(0, 96), 0, 2);
        check.dueWords(Check.fullText(0, 111), 0, 48);
        int[] pairs = new int[48];
        for (int i = 0; i < 48; i++) {
            pairs[i] = i % 2 == 0 ? 1 : 113;
        }
        check.dueWords(pairs, 0, 47);
    }

    private static void kindsOfPieces(Check check) {
        check.sentence("each of them a letter, a digit, a mark or the line");
        for (int c : Check.row(0, 95, 96, 99, 100, 103, 104, 111, 112, 124, 127)) {
            check.dueWords(Check.row(1, c), 0, 2);
        }
        for (int c : Check.row(113, 114, 115, 116, 119, 120, 123)) {
            check.dueWords(Check.row(1, c), 0, 1);
        }
    }

    private static void behindADashOrDot(Check check) {
        check.sentence("or a dash or dot and behind that one of these");
        for (int joint : Check.row(113, 114)) {
            for (int c : Check.row(0, 95, 96, 103, 104, 111, 112, 124, 127)) {
                check.dueWords(Check.row(1, joint, c), 0, 3);
            }
            for (int c : Check.row(113, 114, 115, 119, 120, 123)) {
                check.dueWords(Check.row(1, joint, c), 0, 1);
            }
            // At the end of the text nothing stands behind it, be the text short or full.
            check.dueWords(Check.row(1, joint), 0, 1);
            check.dueWords(Check.fullText(1, joint), 0, 47);
            check.dueWords(Check.fullText(1, joint, 112), 0, 48);
            LookalikeDesk shorter = Check.desk(1, joint, 2);
            Check.put(shorter, 1, joint);
            check.due("length where a longer text lay before", shorter.word(0, 1), 1);
        }
    }

    private static void firstCharacter(Check check) {
        check.sentence("The WORDS of a text: at its first character");
        check.dueWords(Check.row());
        check.dueWords(Check.row(1), 0, 1);
        check.dueWords(Check.row(115));
    }

    private static void goingOn(Check check) {
        check.sentence("the longest one is a word, and it goes on behind it");
        check.dueWords(Check.row(1, 2, 3), 0, 3);
        check.dueWords(Check.row(1, 113, 113, 2), 0, 1, 3, 1);
        check.dueWords(Check.row(1, 114, 113, 2, 114), 0, 1, 3, 1);
        check.dueWords(Check.fullText(1, 115, 1), 0, 46, 47, 1);
    }

    private static void nextCharacter(Check check) {
        check.sentence("otherwise with the next character");
        check.dueWords(Check.row(115, 1), 1, 1);
        check.dueWords(Check.row(113, 1), 1, 1);
        check.dueWords(Check.fullText(96, 95), 47, 1);
        check.dueWords(Check.fullText(123, 127), 47, 1);
        check.dueWords(Check.repeated(112, 48));
    }

    /** As many words as there can be: 24 single letters with spaces between. */
    private static int[] mostWords() {
        int[] text = Check.repeated(115, 48);
        for (int i = 0; i < 48; i += 2) {
            text[i] = i % 4 == 0 ? 0 : 17;
        }
        text[46] = 16;
        return text;
    }

    private static void howManyWords(Check check) {
        check.sentence("How many words the text has.");
        check.dueOf("words", LookalikeDesk::words, 0);
        check.dueOf("words", LookalikeDesk::words, 0, Check.repeated(120, 48));
        check.dueOf("words", LookalikeDesk::words, 1, Check.repeated(127, 48));
        check.dueOf("words", LookalikeDesk::words, 24, mostWords());
    }

    private static void whereItBegins(Check check) {
        check.sentence("Of word i (from 0): what = 0 where it begins");
        LookalikeDesk desk = Check.desk(mostWords());
        check.due("the first one", desk.word(0, 0), 0);
        check.due("the last one", desk.word(23, 0), 46);
        check.due("the last place", Check.desk(Check.fullText(115, 1)).word(0, 0), 47);
    }

    private static void howLongItIs(Check check) {
        check.sentence("1 how long it is");
        check.due("the shortest", Check.desk(mostWords()).word(23, 1), 1);
        check.due("the longest", Check.desk(Check.repeated(0, 48)).word(0, 1), 48);
        // Characters count, not those of the skeleton.
        check.due("the longest skeleton", Check.desk(Check.repeated(127, 48)).word(0, 1), 48);
    }

    private static void firstWordBefore(Check check) {
        check.sentence("2 the first word before it that looks like it, NONE if there is none");
        check.due("none before the first", Check.desk(0, 115, 16).word(0, 2), NONE);
        check.due("the one before", Check.desk(0, 115, 16).word(1, 2), 0);
        check.due("the same one", Check.desk(0, 115, 0).word(1, 2), NONE);
        check.due("the first of two", Check.desk(0, 115, 32, 115, 16).word(2, 2), 0);
        check.due("the same one passed", Check.desk(16, 115, 0, 115, 16).word(2, 2), 1);
        check.due("one behind it", Check.desk(1, 115, 0, 115, 16).word(1, 2), NONE);
        check.due("one that goes on", Check.desk(0, 0, 115, 16).word(1, 2), NONE);
        LookalikeDesk most = Check.desk(mostWords());
        check.due("the last of the most", most.word(23, 2), 0);
        check.due("the last but one of the most", most.word(22, 2), NONE);
        LookalikeDesk longest = Check.desk(Check.fullText(28, 115, 13, 15));
        check.due("one that is longer", longest.word(1, 2), NONE);
        LookalikeDesk named = new LookalikeDesk();
        Check.registered(named, 0);
        Check.put(named, 16);
        check.due("no name counts", named.word(0, 2), NONE);
    }

    private static void firstName(Check check) {
        check.sentence("3 the first name that looks like it, NONE if there is none");
        check.due("no names", Check.desk(0).word(0, 3), NONE);
        LookalikeDesk desk = Check.fullRegister();
        Check.put(desk, 0, 11, 115, 16, 11, 115, 11, 16, 115, 11);
        check.due("the name itself", desk.word(0, 3), NONE);
        check.due("the last name", desk.word(1, 3), 11);
        check.due("the first name", desk.word(2, 3), 0);
        check.due("one that a name goes on behind", desk.word(3, 3), NONE);
        check.due("withdrawn, those behind it have one less", desk.withdraw(0) + desk.word(1, 3), 11 + 10);
        check.due("the withdrawn one", desk.word(2, 3), NONE);
        LookalikeDesk two = new LookalikeDesk();
        Check.registered(two, 0);
        Check.registered(two, 16);
        Check.put(two, 32, 115, 0);
        check.due("the first of two", two.word(0, 3), 0);
        check.due("the same one passed", two.word(1, 3), 1);
    }

    private static void noSuchWord(Check check) {
        check.sentence("IllegalArgumentException when there is no such word");
        outsideIsRefused(check, new LookalikeDesk(), 0);
        outsideIsRefused(check, Check.desk(115, 96), 0);
        outsideIsRefused(check, Check.desk(1), 1);
        outsideIsRefused(check, Check.desk(mostWords()), 24);
        LookalikeDesk shorter = Check.desk(mostWords());
        check.due("words of the text before", shorter.words(), 24);
        Check.put(shorter, 1, 115, 2);
        outsideIsRefused(check, shorter, 2);
    }

    private static void outsideIsRefused(Check check, LookalikeDesk desk, int count) {
        for (int what = 0; what <= 3; what++) {
            int asked = what;
            for (int i : Check.outside(count)) {
                check.dueThrow("word(" + i + ", " + what + ") of " + count, IllegalArgumentException.class,
                        () -> desk.word(i, asked));
            }
        }
    }

    private static void noSuchQuestion(Check check) {
        check.sentence("or what is not 0 .. 3");
        LookalikeDesk desk = Check.desk(1);
        for (int what : Check.outside(4)) {
            check.dueThrow("word(0, " + what + ")", IllegalArgumentException.class, () -> desk.word(0, what));
            check.dueThrow("word(1, " + what + ")", IllegalArgumentException.class, () -> desk.word(1, what));
        }
        check.due("what = 0", desk.word(0, 0), 0);
        check.due("what = 3", desk.word(0, 3), NONE);
    }
}
