/** Terms: a test for each sentence that bounds the kinds of characters, their taking apart, prototypes and sets. */
public final class CharacterEdgesTest {
    private static final int NO_CHARACTER = 128;

    public static void main(String[] args) {
        Check check = new Check();
        characters(check);
        letters(check);
        digits(check);
        marks(check);
        lineDashAndDot(check);
        spaceAndSigns(check);
        invisibleOnes(check);
        composedOnes(check);
        composedTakenApart(check);
        runsOfMarks(check);
        classesOfMarks(check);
        marksOfOneClass(check);
        prototypeOf12(check);
        prototypeOf55(check);
        prototypesOfEvenCyrillic(check);
        prototypesOfEveryThirdGreek(check);
        prototypesOfPrototypes(check);
        prototypesOfKatakana(check);
        prototypesOfDigitsMarksAndSigns(check);
        prototypesOfOthers(check);
        skeletonWithoutInvisible(check);
        skeletonTakenApartTwice(check);
        setOfTheEmptyText(check);
        setOfAFullText(check);
        check.end();
    }

    private static void itself(Check check, int... characters) {
        for (int c : characters) {
            check.dueSkeleton(Check.row(c), c);
        }
    }

    private static void characters(Check check) {
        check.sentence("CHARACTERS are 0 .. 127");
        LookalikeDesk desk = new LookalikeDesk();
        check.due("the least one", desk.type(0L, 1), 1);
        check.due("the greatest one", desk.type(127L, 1), 2);
        check.dueThrow("one too large", IllegalArgumentException.class, () -> desk.type(NO_CHARACTER, 1));
        check.dueThrow("a byte's greatest", IllegalArgumentException.class, () -> desk.type(255L, 1));
        check.dueRow("only the two are there", Check.skeletonOf(desk), 0, 13, 15, 107);
    }

    private static void letters(Check check) {
        check.sentence("LATIN 0 .. 15, CYRILLIC 16 .. 31, GREEK 32 .. 47, HAN 48 .. 63, HIRAGANA 64 .. 71,"
                + " KATAKANA 72 .. 79, HANGUL 80 .. 87, BOPOMOFO 88 .. 95");
        ends(check, 0, 15, 1);
        ends(check, 16, 31, 2);
        ends(check, 32, 47, 4);
        ends(check, 48, 63, 8 + 512 + 1024 + 2048);
        ends(check, 64, 71, 16 + 1024);
        ends(check, 72, 79, 32 + 1024);
        ends(check, 80, 87, 64 + 2048);
        ends(check, 88, 95, 128 + 512);
        check.dueWords(Check.row(0), 0, 1);
        check.dueWords(Check.row(95), 0, 1);
        check.dueWords(Check.row(96));
    }

    private static void ends(Check check, int first, int last, int set) {
        check.dueScripts(set, first);
        check.dueScripts(set, last);
        check.dueScripts(set, first, last);
    }

    private static void digits(Check check) {
        check.sentence("the DIGITS 96 .. 99 of the west (common) and 100 .. 103 of the east (script ARABIC)");
        ends(check, 96, 99, 4095);
        ends(check, 100, 103, 256);
        check.dueOdd(1, 96, 100);
        check.dueOdd(1, 99, 103);
        check.dueOdd(0, 96, 99);
        check.dueOdd(0, 100, 103);
        check.dueOdd(0, 95, 100);
        check.dueOdd(0, 99, 95, 104);
    }

    private static void marks(Check check) {
        check.sentence("MARKS 104 .. 111");
        check.dueOdd(0, 103);
        check.dueOdd(8, 104);
        check.dueOdd(8, 111);
        check.dueOdd(0, 112);
        ends(check, 104, 111, 4095);
    }

    private static void lineDashAndDot(Check check) {
        check.sentence("the LINE 112, DASH 113, DOT 114");
        check.dueWords(Check.row(0, 112), 0, 2);
        check.dueWords(Check.row(0, 113), 0, 1);
        check.dueWords(Check.row(0, 114), 0, 1);
        check.dueWords(Check.row(0, 113, 0, 114, 0), 0, 5);
        ends(check, 112, 114, 4095);
    }

    private static void spaceAndSigns(Check check) {
        check.sentence("SPACE 115, SIGNS 116 .. 119");
        for (int c : Check.row(115, 116, 119)) {
            check.dueWords(Check.row(0, c, 0), 0, 1, 2, 1);
            check.due("skeleton with " + c, Check.desk(0, c).skeleton(), 2);
            check.dueScripts(4095, c);
            check.dueOdd(0, c);
        }
    }

    private static void invisibleOnes(Check check) {
        check.sentence("INVISIBLE ones 120 .. 123");
        check.dueSkeleton(Check.row(119), 119);
        check.dueSkeleton(Check.row(120));
        check.dueSkeleton(Check.row(123));
        check.dueSkeleton(Check.row(124), 0, 104);
        check.dueOdd(0, 119);
        check.dueOdd(4, 120);
        check.dueOdd(4, 123);
        check.dueOdd(0, 124);
        ends(check, 120, 123, 4095);
    }

    private static void composedOnes(Check check) {
        check.sentence("COMPOSED ones 124 .. 127, which are LATIN letters too");
        ends(check, 124, 127, 1);
        check.dueWords(Check.row(123));
        check.dueWords(Check.row(124), 0, 1);
        check.dueWords(Check.row(127), 0, 1);
        check.dueOdd(0, 124, 111);
        check.dueOdd(0, 127, 111);
    }

    private static void composedTakenApart(Check check) {
        check.sentence("composed character 124 + k becomes letter 4 * k and mark 104 + k");
        check.dueSkeleton(Check.row(124), 0, 104);
        check.dueSkeleton(Check.row(126), 8, 106);
        // Letter 12 goes on to its prototype.
        check.dueSkeleton(Check.row(127), 13, 15, 107);
        check.dueOdd(2, 127, 107);
        check.dueOdd(0, 127, 106);
    }

    private static void runsOfMarks(Check check) {
        check.sentence("within each run of marks that stand one behind the other");
        check.dueSkeleton(Check.row(111), 111);
        check.dueSkeleton(Check.row(111, 104, 1, 111, 104), 104, 111, 1, 104, 111);
        check.dueSkeleton(Check.row(111, 112, 104), 111, 112, 104);
        check.dueSkeleton(Check.row(111, 103, 104), 111, 103, 104);
        // The composed one's own mark is in the run behind it, and its letter ends the run before.
        check.dueSkeleton(Check.row(111, 125, 104), 111, 4, 105, 104);
        int[] due = Check.repeated(104, 48);
        due[47] = 111;
        int[] text = Check.repeated(104, 48);
        text[0] = 111;
        check.dueSkeleton(text, due);
    }

    private static void classesOfMarks(Check check) {
        check.sentence("104 .. 107 have 1, 108 and 109 have 2, 110 and 111 have 3");
        check.dueSkeleton(Check.row(108, 107), 107, 108);
        check.dueSkeleton(Check.row(108, 104), 104, 108);
        check.dueSkeleton(Check.row(110, 108), 108, 110);
        check.dueSkeleton(Check.row(111, 107), 107, 111);
        // What meets the same mark when it is taken apart tells the class of 109.
        check.dueOdd(10, 109, 107, 109);
        check.dueOdd(10, 110, 109, 110);
        check.dueOdd(10, 109, 110, 109);
    }

    private static void marksOfOneClass(Check check) {
        check.sentence("those of one class staying in their order");
        check.dueSkeleton(Check.row(107, 106, 105, 104), 107, 106, 105, 104);
        check.dueSkeleton(Check.row(104, 105, 106, 107), 104, 105, 106, 107);
        check.dueSkeleton(Check.row(111, 110), 111, 110);
        check.dueSkeleton(Check.row(111, 107, 110, 104), 107, 104, 111, 110);
        check.dueOdd(8, 109, 108, 109);
        check.dueOdd(8, 108, 109, 108);
    }

    private static void prototypeOf12(Check check) {
        check.sentence("of 12: 13, 15 (two characters)");
        itself(check, 11, 13, 14, 15);
        check.dueSkeleton(Check.row(12), 13, 15);
    }

    private static void prototypeOf55(Check check) {
        check.sentence("of 55: 49, 49");
        itself(check, 54, 56);
        check.dueSkeleton(Check.row(55), 49, 49);
    }

    private static void prototypesOfEvenCyrillic(Check check) {
        check.sentence("of 16 + k for even k from 0 to 14");
        check.dueSkeleton(Check.row(16), 0);
        check.dueSkeleton(Check.row(30), 14);
        itself(check, 17, 29, 31);
    }

    private static void prototypesOfEveryThirdGreek(Check check) {
        check.sentence("of 32 + k for k 0, 3, 6, .. 15");
        check.dueSkeleton(Check.row(32), 0);
        check.dueSkeleton(Check.row(47), 15);
        itself(check, 33, 34, 45, 46);
        itself(check, 48, 51);
    }

    private static void prototypesOfPrototypes(Check check) {
        check.sentence("the prototype of k");
        check.dueSkeleton(Check.row(28), 13, 15);
        check.dueSkeleton(Check.row(44), 13, 15);
    }

    private static void prototypesOfKatakana(Check check) {
        check.sentence("of 72, 73, 74: 48, 49, 50");
        check.dueSkeleton(Check.row(72), 48);
        check.dueSkeleton(Check.row(74), 50);
        itself(check, 71, 75);
    }

    private static void prototypesOfDigitsMarksAndSigns(Check check) {
        check.sentence("of 96 and 100: 14; of 97 and 101: 11; of 109: 105; of 118: 114, 114");
        check.dueSkeleton(Check.row(96, 100), 14, 14);
        check.dueSkeleton(Check.row(97, 101), 11, 11);
        check.dueSkeleton(Check.row(109), 105);
        check.dueSkeleton(Check.row(118), 114, 114);
        itself(check, 95, 98, 99, 102, 103, 108, 110, 117, 119);
    }

    private static void prototypesOfOthers(Check check) {
        check.sentence("of any other one itself");
        itself(check, 0, 1, 2, 10, 63, 64, 79, 80, 87, 88, 104, 111, 112, 113, 114, 115, 116);
    }

    private static void skeletonWithoutInvisible(Check check) {
        check.sentence("its invisible characters are left out");
        check.dueSkeleton(Check.row(120, 121, 122, 123));
        check.dueSkeleton(Check.repeated(122, 48));
        check.dueSkeleton(Check.row(120, 1, 123), 1);
        // Left out first, so the marks on both sides are one run.
        check.dueSkeleton(Check.row(111, 120, 104), 104, 111);
    }

    private static void skeletonTakenApartTwice(Check check) {
        check.sentence("it is taken apart, each character gives way to its prototype, and it is taken apart once more");
        check.dueSkeleton(Check.row());
        // 104 passes 109 before it becomes 105: without the first order it would be 105, 104.
        check.dueSkeleton(Check.row(109, 104), 104, 105);
        // 105 passes 108 only when it has become 105: without the second order it would be 108, 105.
        check.dueSkeleton(Check.row(108, 109), 105, 108);
    }

    private static void setOfTheEmptyText(Check check) {
        check.sentence("A text's set is what all its characters' sets have in common (4095 if it is empty)");
        check.dueScripts(4095);
        LookalikeDesk desk = Check.desk(0, 16);
        check.due("nothing in common", desk.scripts(), 0);
        desk.wipe();
        check.due("emptied", desk.scripts(), 4095);
    }

    private static void setOfAFullText(Check check) {
        check.sentence("A text's set is what all its characters' sets have in common");
        check.dueScripts(1, Check.repeated(0, 48));
        check.dueScripts(0, Check.fullText(0, 16));
        check.dueScripts(0, Check.fullText(0, 100));
        check.dueScripts(1, Check.fullText(96, 124));
        check.dueScripts(4095, Check.fullText(115, 123));
    }
}
