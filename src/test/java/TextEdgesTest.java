/** Promises 1 to 8, and the terms that they use: a test for each sentence that names a boundary case. */
public final class TextEdgesTest {
    private static final int NONE = LookalikeDesk.NONE;

    public static void main(String[] args) {
        Check check = new Check();
        lastCall(check);
        newObject(check);
        lowestBytes(check);
        wrongCount(check);
        wrongByte(check);
        textTooLong(check);
        nothingOfWhatIsTooLong(check);
        wiping(check);
        lengthOfSkeletons(check);
        placesOfSkeletons(check);
        levelSix(check);
        levelOne(check);
        levelTwo(check);
        levelThree(check);
        levelFour(check);
        levelFive(check);
        digitsOfBoth(check);
        sameMarks(check);
        invisibleOnes(check);
        markAtTheBeginning(check);
        markBehindNeither(check);
        sumOfAll(check);
        check.end();
    }

    private static void lastCall(Check check) {
        check.sentence("An object is used for at most 512 calls after it has been made");
        LookalikeDesk desk = new LookalikeDesk();
        for (int round = 0; round < 170; round++) {
            check.due("type in round " + round, desk.type(0x7F01L, 2), 2);
            check.due("skeleton in round " + round, desk.skeleton(), 4);
            check.due("wipe in round " + round, desk.wipe(), 2);
        }
        check.due("the 511th call", desk.type(7L, 1), 1);
        check.due("the 512th call", desk.register(), 1);
    }

    private static void newObject(Check check) {
        check.sentence("The text is empty, the register too.");
        check.due("wipe", new LookalikeDesk().wipe(), 0);
        check.due("the first type", new LookalikeDesk().type(5L, 1), 1);
        check.dueThrow("nameAt", IndexOutOfBoundsException.class, () -> new LookalikeDesk().nameAt(0, 0));
        check.due("the first register", Check.registered(new LookalikeDesk(), 5), 1);
        LookalikeDesk full = Check.fullRegister();
        check.due("beside a full one: wipe", new LookalikeDesk().wipe(), 0);
        check.due("beside a full one: register", Check.registered(new LookalikeDesk(), 0, 11), 1);
        check.due("the full one stays", full.nameAt(11, 1), 11);
    }

    private static void lowestBytes(Check check) {
        check.sentence("Appends n characters to the text, the lowest n bytes of characters, the highest of them first");
        long characters = 0x0102030405060708L;
        for (int n = 1; n <= 8; n++) {
            LookalikeDesk desk = new LookalikeDesk();
            check.due("type of " + n, desk.type(characters, n), n);
            for (int i = 0; i < n; i++) {
                check.due("character " + i + " of " + n, desk.skeletonAt(i), 9 - n + i);
            }
        }
        for (int n = 1; n < 8; n++) {
            long above = -1L << (8 * n);
            check.due("bytes above the lowest " + n, new LookalikeDesk().type(above, n), n);
        }
        check.due("eight times the least", new LookalikeDesk().type(0L, 8), 8);
        check.due("eight times the greatest", new LookalikeDesk().type(0x7F7F7F7F7F7F7F7FL, 8), 8);
    }

    private static void wrongCount(Check check) {
        check.sentence("IllegalArgumentException when n is not 1 .. 8");
        LookalikeDesk desk = Check.desk(1);
        for (int n : Check.outside(9)) {
            check.dueThrow("type(0, " + n + ")", IllegalArgumentException.class, () -> desk.type(0L, n));
        }
        // These would be 1 .. 8 if they were cut to a byte or a short one.
        for (int n : Check.row(0, 257, 264, 65537, -255, Integer.MIN_VALUE + 8)) {
            check.dueThrow("type(0, " + n + ")", IllegalArgumentException.class, () -> desk.type(0L, n));
        }
        check.due("n = 1", desk.type(0L, 1), 2);
        check.due("n = 8", desk.type(0L, 8), 10);
    }

    private static void wrongByte(Check check) {
        check.sentence("IllegalArgumentException when n is not 1 .. 8 or one of the bytes is above 127");
        LookalikeDesk desk = Check.desk(1);
        for (int place = 0; place < 8; place++) {
            long least = 128L << (8 * place);
            long greatest = 255L << (8 * place);
            for (int n = place + 1; n <= 8; n++) {
                int count = n;
                check.dueThrow("128 in byte " + place + " of " + n, IllegalArgumentException.class,
                        () -> desk.type(least, count));
                check.dueThrow("255 in byte " + place + " of " + n, IllegalArgumentException.class,
                        () -> desk.type(greatest, count));
            }
        }
        check.dueThrow("all of them", IllegalArgumentException.class, () -> desk.type(-1L, 8));
        check.dueThrow("the least long", IllegalArgumentException.class, () -> desk.type(Long.MIN_VALUE, 8));
        check.due("nothing came", desk.wipe(), 1);
    }

    private static void textTooLong(Check check) {
        check.sentence("IllegalStateException when it would have more than 48.");
        for (int n = 1; n <= 8; n++) {
            int count = n;
            LookalikeDesk desk = Check.desk(Check.repeated(3, 48 - n));
            check.due(n + " to 48", desk.type(0L, n), 48);
            LookalikeDesk longer = Check.desk(Check.repeated(3, 49 - n));
            check.dueThrow(n + " to 49", IllegalStateException.class, () -> longer.type(0L, count));
            check.dueThrow(n + " behind 48", IllegalStateException.class, () -> desk.type(0L, count));
            check.due("what it has", desk.wipe(), 48);
            check.due("wiped, there is room", desk.type(0L, n), n);
        }
    }

    private static void nothingOfWhatIsTooLong(Check check) {
        check.sentence("At the desk lies one text, of at most 48 characters");
        LookalikeDesk desk = Check.desk(Check.repeated(3, 47));
        check.dueThrow("two more", IllegalStateException.class, () -> desk.type(0x0404L, 2));
        check.due("not even one came", desk.skeleton(), 47);
        check.due("there is room for one", desk.type(5L, 1), 48);
        check.due("it is the last one", desk.skeletonAt(47), 5);
        check.due("no invisible one either", Check.desk(Check.repeated(120, 48)).wipe(), 48);
    }

    private static void wiping(Check check) {
        check.sentence("The text is empty from now on: how many characters it had.");
        LookalikeDesk desk = new LookalikeDesk();
        check.due("empty", desk.wipe(), 0);
        Check.add(desk, Check.repeated(127, 48));
        check.due("full", desk.wipe(), 48);
        check.due("empty again", desk.wipe(), 0);
        check.due("no skeleton", desk.skeleton(), 0);
        check.due("no character", desk.skeletonAt(0), NONE);
        check.due("no word", desk.words(), 0);
        check.dueThrow("no identifier", IllegalArgumentException.class, desk::register);
        Check.add(desk, 9);
        check.dueRow("nothing of the old text", Check.skeletonOf(desk), 9);
    }

    private static void lengthOfSkeletons(Check check) {
        check.sentence("How many characters the text's skeleton has.");
        check.dueOf("skeleton", LookalikeDesk::skeleton, 0);
        check.dueOf("skeleton", LookalikeDesk::skeleton, 0, Check.repeated(123, 48));
        check.dueOf("skeleton", LookalikeDesk::skeleton, 48, Check.repeated(111, 48));
        check.dueOf("skeleton", LookalikeDesk::skeleton, 96, Check.repeated(118, 48));
        check.dueOf("skeleton", LookalikeDesk::skeleton, 144, Check.repeated(127, 48));
        check.dueOf("skeleton", LookalikeDesk::skeleton, 49, Check.fullText(1, 55));
    }

    private static void placesOfSkeletons(Check check) {
        check.sentence("Character i (from 0) of the skeleton; NONE.");
        outsideIsNone(check, new LookalikeDesk());
        outsideIsNone(check, Check.desk(121));
        outsideIsNone(check, Check.desk(1, 2));
        outsideIsNone(check, Check.desk(Check.repeated(1, 48)));
        LookalikeDesk longest = Check.desk(Check.repeated(127, 48));
        outsideIsNone(check, longest);
        check.due("the first one", longest.skeletonAt(0), 13);
        check.due("the last one", longest.skeletonAt(143), 107);
        LookalikeDesk shorter = Check.desk(1, 2);
        Check.put(shorter, 120, 3);
        check.due("the last one of a shorter text", shorter.skeletonAt(0), 3);
        outsideIsNone(check, shorter);
    }

    private static void outsideIsNone(Check check, LookalikeDesk desk) {
        for (int i : Check.outside(desk.skeleton())) {
            check.due("skeletonAt(" + i + ") of " + desk.skeleton(), desk.skeletonAt(i), NONE);
        }
    }

    private static void levelSix(Check check) {
        check.sentence("6, if one of its characters is one of 115 .. 123");
        check.dueLevel(1, 114);
        check.dueLevel(6, 115);
        check.dueLevel(6, 123);
        check.dueLevel(2, 124);
        check.dueLevel(6, Check.fullText(0, 115));
        check.dueLevel(6, 123, 0, 16);
    }

    private static void levelOne(Check check) {
        check.sentence("otherwise 1, if all are 0 .. 15, 96 .. 99 or 112 .. 114");
        check.dueLevel(1);
        check.dueLevel(1, 0, 15);
        check.dueLevel(1, 96, 99);
        check.dueLevel(1, 112, 114);
        for (int c : Check.row(16, 95, 100, 111, 124)) {
            check.dueLevel(2, c);
        }
        check.dueLevel(1, Check.repeated(15, 48));
        check.dueLevel(2, Check.fullText(15, 104));
    }

    private static void levelTwo(Check check) {
        check.sentence("otherwise 2, if its set is not 0");
        check.dueLevel(2, Check.fullText(16, 31));
        check.dueLevel(2, 48, 63, 64, 79);
        check.dueLevel(2, 48, 88);
        check.dueLevel(2, 48, 87);
        check.dueLevel(2, 104);
        check.dueLevel(2, 96, 103);
        check.dueLevel(2, 0, 127);
    }

    private static void levelThree(Check check) {
        check.sentence("otherwise 3, if for one of 512, 1024 and 2048 every character's set has LATIN or that");
        check.dueLevel(3, Check.fullText(0, 48));
        check.dueLevel(3, 0, 63, 88);
        check.dueLevel(3, 0, 63, 64, 79);
        check.dueLevel(3, 124, 63, 87);
        check.dueLevel(3, 96, 104, 112, 95, 15);
        check.dueLevel(5, Check.fullText(0, 88, 80));
        check.dueLevel(5, 16, 48, 0);
    }

    private static void levelFour(Check check) {
        check.sentence("otherwise 4, if for one of 8, 16, 32, 64, 128 and 256 every character's set has LATIN or that");
        check.dueLevel(4, Check.fullText(0, 100));
        check.dueLevel(4, 127, 103, 99, 111, 114);
        check.dueLevel(5, Check.fullText(0, 100, 48));
        check.dueLevel(5, 16, 0, 100);
    }

    private static void levelFive(Check check) {
        check.sentence("otherwise 5");
        check.dueLevel(5, 15, 16);
        check.dueLevel(5, 31, 32);
        check.dueLevel(5, 47, 48);
        check.dueLevel(5, 71, 80);
        check.dueLevel(5, 95, 100);
        check.dueLevel(5, Check.fullText(0, 47));
    }

    private static void digitsOfBoth(Check check) {
        check.sentence("1 if there are digits of both the west and the east");
        check.dueOdd(0);
        check.dueOdd(0, Check.repeated(96, 48));
        check.dueOdd(0, Check.repeated(103, 48));
        check.dueOdd(1, Check.fullText(96, 103));
        check.dueOdd(1, Check.fullText(100, 99));
    }

    private static void sameMarks(Check check) {
        check.sentence("2 if, taken apart, it has a mark right behind the same mark");
        check.dueOdd(0, 1, 104);
        check.dueOdd(0, 1, 1);
        check.dueOdd(2, 1, 104, 104);
        check.dueOdd(2, Check.fullText(1, 111, 111));
        check.dueOdd(10, 104, 104, 1);
        check.dueOdd(0, 1, 104, 1, 104);
        check.dueOdd(2, 124, 104);
        check.dueOdd(0, 1, 104, 105, 104);
        check.dueOdd(2, 1, 104, 108, 104);
        check.dueOdd(2, 127, 111, 110, 108, 107);
    }

    private static void invisibleOnes(Check check) {
        check.sentence("4 if there is an invisible character");
        check.dueOdd(4, 120);
        check.dueOdd(4, Check.repeated(123, 48));
        check.dueOdd(4, Check.fullText(1, 121));
        check.dueOdd(0, Check.fullText(119, 127));
    }

    private static void markAtTheBeginning(Check check) {
        check.sentence("8 if, taken apart, it begins with a mark");
        check.dueOdd(8, 104);
        check.dueOdd(8, 111, 1);
        check.dueOdd(0, 1, 111);
        check.dueOdd(0, 124);
        check.dueOdd(10, Check.repeated(110, 48));
    }

    private static void markBehindNeither(Check check) {
        check.sentence("or has one right behind what is neither a letter nor a mark");
        check.dueOdd(0, 95, 104);
        check.dueOdd(8, 96, 104);
        check.dueOdd(8, 103, 104);
        check.dueOdd(0, 1, 104, 111);
        check.dueOdd(8, 1, 112, 104);
        check.dueOdd(8, Check.fullText(119, 104));
        check.dueOdd(12, 1, 120, 104);
        check.dueOdd(12, 1, 123, 104);
        check.dueOdd(0, 124, 105);
        check.dueOdd(0, Check.fullText(1, 111));
        // Before a composed one's mark stands its letter.
        check.dueOdd(0, 115, 127);
    }

    private static void sumOfAll(Check check) {
        check.sentence("What is ODD about a text: the sum of");
        check.dueOdd(0);
        check.dueOdd(15, 96, 100, 104, 104, 120);
        check.dueOdd(15, Check.fullText(123, 99, 103, 111, 111));
        check.dueOdd(7, 96, 100, 1, 104, 104, 120);
        check.dueOdd(9, 96, 100, 104);
    }
}
