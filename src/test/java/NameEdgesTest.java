/** Promises 11 to 16, and the terms that they use: a test for each sentence that names a boundary case. */
public final class NameEdgesTest {
    private static final int NONE = LookalikeDesk.NONE;

    public static void main(String[] args) {
        Check check = new Check();
        atMostTwelve(check);
        oneLess(check);
        notTheSame(check);
        registeredTextStays(check);
        noIdentifier(check);
        twelveNames(check);
        nameAlready(check);
        withdrawing(check);
        noNameToWithdraw(check);
        turnsOfTheRegister(check);
        orderOfSkeletons(check);
        endsFirst(check);
        equalOnes(check);
        noSuchPlace(check);
        charactersOfNames(check);
        noSuchNameAt(check);
        alikeTheSame(check);
        alikeInCommon(check);
        alikeNothingInCommonAndNoSet(check);
        alikeNothingInCommon(check);
        notAlike(check);
        noSuchNameAlike(check);
        fromOn(check);
        noLookalike(check);
        check.end();
    }

    private static void names(Check check, String what, LookalikeDesk desk, int... firstCharacters) {
        int[] got = new int[firstCharacters.length];
        for (int name = 0; name < got.length; name++) {
            got[name] = desk.nameAt(name, 0);
        }
        check.dueRow(what, got, firstCharacters);
        check.dueThrow(what + ": none behind them", IndexOutOfBoundsException.class,
                () -> desk.nameAt(firstCharacters.length, 0));
    }

    private static void ranks(Check check, String what, LookalikeDesk desk, int... due) {
        int[] got = new int[due.length];
        for (int i = 0; i < due.length; i++) {
            got[i] = desk.ranked(i);
        }
        check.dueRow(what, got, due);
    }

    private static LookalikeDesk withNames(int[]... names) {
        LookalikeDesk desk = new LookalikeDesk();
        for (int[] name : names) {
            Check.registered(desk, name);
        }
        return desk;
    }

    private static void atMostTwelve(Check check) {
        check.sentence("at most 12 NAMES, numbered 0, 1, .. in the order in which they were registered");
        LookalikeDesk desk = Check.fullRegister();
        names(check, "twelve names", desk, 11, 10, 9, 8, 7, 6, 5, 4, 3, 2, 1, 0);
        Check.put(desk, 15);
        check.dueThrow("a thirteenth", IllegalStateException.class, desk::register);
        names(check, "still twelve", desk, 11, 10, 9, 8, 7, 6, 5, 4, 3, 2, 1, 0);
    }

    private static void oneLess(Check check) {
        check.sentence("(when one is withdrawn, those behind it have one less)");
        LookalikeDesk desk = Check.fullRegister();
        desk.withdraw(11);
        names(check, "without the last", desk, 11, 10, 9, 8, 7, 6, 5, 4, 3, 2, 1);
        desk.withdraw(0);
        names(check, "without the first", desk, 10, 9, 8, 7, 6, 5, 4, 3, 2, 1);
        desk.withdraw(5);
        names(check, "without one between", desk, 10, 9, 8, 7, 6, 4, 3, 2, 1);
        Check.registered(desk, 15);
        names(check, "a new one is the last", desk, 10, 9, 8, 7, 6, 4, 3, 2, 1, 15);
    }

    private static void notTheSame(Check check) {
        check.sentence("Two texts LOOK ALIKE if they are not the same and their skeletons are.");
        LookalikeDesk desk = withNames(Check.row(0));
        check.due("the same", desk.lookalike(0), NONE);
        Check.put(desk, 16);
        check.due("not the same", desk.lookalike(0), 0);
        Check.put(desk, 0, 120);
        check.due("longer by an invisible one", desk.lookalike(0), 0);
        Check.put(desk, 17);
        check.due("another skeleton", desk.lookalike(0), NONE);
        Check.put(desk, 16, 16);
        check.due("a skeleton that goes on", desk.lookalike(0), NONE);
        Check.put(desk);
        check.due("an empty skeleton", desk.lookalike(0), NONE);
        LookalikeDesk full = withNames(Check.fullText(127, 0));
        Check.put(full, Check.fullText(127, 16));
        check.due("the longest but for the last one", full.lookalike(0), 0);
        Check.put(full, Check.fullText(127, 1));
        check.due("another last one", full.lookalike(0), NONE);
    }

    private static void registeredTextStays(Check check) {
        check.sentence("Registers the text (which stays) as a name: how many names there are.");
        LookalikeDesk desk = Check.desk(7);
        check.due("the first", desk.register(), 1);
        check.due("typed on", desk.type(8L, 1), 2);
        check.due("the second", desk.register(), 2);
        check.due("the first has not grown", desk.nameAt(0, 1), NONE);
        check.due("the second has", desk.nameAt(1, 1), 8);
        check.due("wiped", desk.wipe(), 2);
        check.due("the second stays", desk.nameAt(1, 0), 7);
        check.due("the longest", Check.registered(desk, Check.repeated(127, 48)), 3);
        check.due("its last", desk.nameAt(2, 47), 127);
    }

    private static void noIdentifier(Check check) {
        check.sentence("IllegalArgumentException when it is not an identifier from its first character to its last");
        int[][] wrong = {
            {}, {96}, {104}, {112}, {113}, {115}, {120}, {96, 1}, {120, 1}, {115, 1}, {1, 115}, {1, 123}, {1, 116},
            {1, 113}, {1, 114}, {1, 113, 113, 1}, {1, 113, 115}, {1, 115, 1},
            Check.fullText(1, 119), Check.fullText(1, 114), Check.fullText(96, 1),
        };
        for (int[] text : wrong) {
            LookalikeDesk desk = Check.desk(text);
            check.dueThrow("register of " + java.util.Arrays.toString(text), IllegalArgumentException.class,
                    desk::register);
        }
        int[][] right = {
            {0}, {95}, {124}, {127}, {0, 96}, {0, 112}, {0, 111}, {0, 113, 112}, {0, 114, 104},
            Check.fullText(1, 113, 103), Check.repeated(124, 48),
        };
        for (int[] text : right) {
            check.dueOf("register", LookalikeDesk::register, 1, text);
        }
    }

    private static void twelveNames(Check check) {
        check.sentence("IllegalStateException when there are 12 names");
        LookalikeDesk desk = new LookalikeDesk();
        for (int i = 0; i < 12; i++) {
            check.due("name " + i, Check.registered(desk, i), i + 1);
        }
        Check.put(desk, 20);
        check.dueThrow("a thirteenth", IllegalStateException.class, desk::register);
        check.due("one withdrawn", desk.withdraw(0), 11);
        check.due("the twelfth again", desk.register(), 12);
        Check.put(desk, 21);
        check.dueThrow("full again", IllegalStateException.class, desk::register);
    }

    private static void nameAlready(Check check) {
        check.sentence("or it is one already");
        LookalikeDesk desk = withNames(Check.row(1, 2), Check.row(3), Check.row(0));
        for (int[] name : new int[][] {{1, 2}, {3}, {0}}) {
            Check.put(desk, name);
            check.dueThrow("again: " + name[0], IllegalStateException.class, desk::register);
        }
        check.due("one that begins with a name", Check.registered(desk, 1, 2, 2), 4);
        check.due("one that a name begins with", Check.registered(desk, 1), 5);
        check.due("one that looks like a name", Check.registered(desk, 16), 6);
        check.due("withdrawn", desk.withdraw(1), 5);
        check.due("so it is none any more", Check.registered(desk, 3), 6);
        LookalikeDesk full = Check.fullRegister();
        check.dueThrow("full, and a name already", IllegalStateException.class, full::register);
        LookalikeDesk longest = withNames(Check.fullText(1, 2));
        check.dueThrow("the longest again", IllegalStateException.class, longest::register);
        check.due("another last one", Check.registered(longest, Check.fullText(1, 3)), 2);
    }

    private static void withdrawing(Check check) {
        check.sentence("Withdraws a name: how many names there are.");
        LookalikeDesk desk = withNames(Check.row(5));
        check.due("the only one", desk.withdraw(0), 0);
        LookalikeDesk full = Check.fullRegister();
        for (int left = 11; left >= 0; left--) {
            check.due("the last one", full.withdraw(left), left);
        }
        check.due("the text stays", full.wipe(), 2);
    }

    private static void noNameToWithdraw(Check check) {
        check.sentence("how many names there are. IndexOutOfBoundsException when there is no such name.");
        LookalikeDesk emptied = withNames(Check.row(5));
        emptied.withdraw(0);
        for (LookalikeDesk desk : new LookalikeDesk[] {new LookalikeDesk(), emptied}) {
            for (int name : Check.outside(0)) {
                check.dueThrow("withdraw(" + name + ") of 0", IndexOutOfBoundsException.class,
                        () -> desk.withdraw(name));
            }
        }
        LookalikeDesk full = Check.fullRegister();
        for (int name : Check.outside(12)) {
            check.dueThrow("withdraw(" + name + ") of 12", IndexOutOfBoundsException.class,
                    () -> full.withdraw(name));
        }
        check.due("none went", full.withdraw(11), 11);
        check.dueThrow("the same number again", IndexOutOfBoundsException.class, () -> full.withdraw(11));
    }

    /** Names go and come more often than the register has places. */
    private static void turnsOfTheRegister(Check check) {
        check.sentence("The REGISTER has at most 12 NAMES");
        LookalikeDesk desk = Check.fullRegister();
        for (int turn = 0; turn < 30; turn++) {
            check.due("turn " + turn + ": withdraw", desk.withdraw(0), 11);
            check.due("turn " + turn + ": register", Check.registered(desk, 12 + turn, 1), 12);
            check.due("turn " + turn + ": the last", desk.nameAt(11, 0), 12 + turn);
        }
        names(check, "the last twelve", desk, 30, 31, 32, 33, 34, 35, 36, 37, 38, 39, 40, 41);
        check.due("nothing of an older name", desk.nameAt(0, 2), NONE);
    }

    private static void orderOfSkeletons(Check check) {
        check.sentence("the less one first (that with the less character where they first differ");
        ranks(check, "the first character", withNames(Check.row(1), Check.row(0)), 1, 0);
        ranks(check, "the skeleton's, not the text's", withNames(Check.row(1), Check.row(16), Check.row(17)), 1, 0, 2);
        ranks(check, "the last of the longest",
                withNames(Check.fullText(127, 3), Check.fullText(127, 2), Check.fullText(127, 22)), 1, 0, 2);
        ranks(check, "the first where they differ", withNames(Check.row(1, 0, 9), Check.row(0, 9, 0)), 1, 0);
        ranks(check, "twelve", Check.fullRegister(), 11, 10, 9, 8, 7, 6, 5, 4, 3, 2, 1, 0);
    }

    private static void endsFirst(Check check) {
        check.sentence("or which ends first)");
        ranks(check, "one ends first", withNames(Check.row(1, 0), Check.row(1)), 1, 0);
        ranks(check, "it is the skeleton that ends",
                withNames(Check.row(12), Check.row(13, 15, 0), Check.row(13)), 2, 0, 1);
        ranks(check, "a shorter one with a greater character", withNames(Check.row(2), Check.row(1, 127)), 1, 0);
        ranks(check, "one character longer", withNames(Check.repeated(1, 48), Check.repeated(1, 47)), 1, 0);
    }

    private static void equalOnes(Check check) {
        check.sentence("equal ones by their numbers");
        LookalikeDesk desk = withNames(Check.row(32), Check.row(16), Check.row(0));
        ranks(check, "all equal", desk, 0, 1, 2);
        desk.withdraw(0);
        Check.registered(desk, 32);
        ranks(check, "all equal again", desk, 0, 1, 2);
        check.due("which has another number now", desk.nameAt(desk.ranked(2), 0), 32);
        Check.registered(desk, 1);
        Check.registered(desk, 16, 0);
        ranks(check, "one behind and one between", desk, 0, 1, 2, 4, 3);
    }

    private static void noSuchPlace(Check check) {
        check.sentence("equal ones by their numbers. IndexOutOfBoundsException when there is none.");
        placesOutside(check, new LookalikeDesk(), 0);
        placesOutside(check, withNames(Check.row(5)), 1);
        placesOutside(check, Check.fullRegister(), 12);
        LookalikeDesk fewer = Check.fullRegister();
        fewer.withdraw(0);
        placesOutside(check, fewer, 11);
        check.due("the first place", fewer.ranked(0), 10);
        check.due("the last place", fewer.ranked(10), 0);
    }

    private static void placesOutside(Check check, LookalikeDesk desk, int count) {
        for (int i : Check.outside(count)) {
            check.dueThrow("ranked(" + i + ") of " + count, IndexOutOfBoundsException.class, () -> desk.ranked(i));
        }
    }

    private static void charactersOfNames(Check check) {
        check.sentence("Of a name, its character i; NONE when it has none.");
        LookalikeDesk desk = withNames(Check.fullText(1, 2), Check.row(127), Check.row(3, 4));
        check.due("the first one", desk.nameAt(0, 0), 1);
        check.due("the last one", desk.nameAt(0, 47), 2);
        check.due("it is not taken apart", desk.nameAt(1, 0), 127);
        int[] lengths = {48, 1, 2};
        for (int name = 0; name < lengths.length; name++) {
            for (int i : Check.outside(lengths[name])) {
                check.due("nameAt(" + name + ", " + i + ")", desk.nameAt(name, i), NONE);
            }
        }
        desk.withdraw(0);
        Check.registered(desk, 6);
        check.due("nothing of a longer one that went", desk.nameAt(2, 1), NONE);
    }

    private static void noSuchNameAt(Check check) {
        check.sentence("NONE when it has none. IndexOutOfBoundsException when there is no such name.");
        namesOutside(check, new LookalikeDesk(), 0);
        namesOutside(check, withNames(Check.row(5)), 1);
        namesOutside(check, Check.fullRegister(), 12);
        LookalikeDesk fewer = Check.fullRegister();
        fewer.withdraw(3);
        namesOutside(check, fewer, 11);
    }

    private static void namesOutside(Check check, LookalikeDesk desk, int count) {
        for (int name : Check.outside(count)) {
            for (int i : Check.row(0, -1, 48, Integer.MIN_VALUE, Integer.MAX_VALUE)) {
                check.dueThrow("nameAt(" + name + ", " + i + ") of " + count, IndexOutOfBoundsException.class,
                        () -> desk.nameAt(name, i));
            }
        }
    }

    private static void pair(Check check, int due, int[] name, int[] text) {
        LookalikeDesk desk = withNames(name);
        Check.put(desk, text);
        check.due("alike of " + java.util.Arrays.toString(text) + " and " + java.util.Arrays.toString(name),
                desk.alike(0), due);
    }

    private static void alikeTheSame(Check check) {
        check.sentence("0 if they are the same");
        pair(check, 0, Check.row(0), Check.row(0));
        pair(check, 0, Check.row(0, 16), Check.row(0, 16));
        pair(check, 0, Check.repeated(127, 48), Check.repeated(127, 48));
    }

    private static void alikeInCommon(Check check) {
        check.sentence("1 if they look alike and their sets have something in common");
        pair(check, 1, Check.row(12), Check.row(13, 15));
        pair(check, 1, Check.row(48), Check.row(72));
        pair(check, 1, Check.row(14), Check.row(96));
        pair(check, 1, Check.row(16), Check.row(16, 123));
    }

    private static void alikeNothingInCommonAndNoSet(Check check) {
        check.sentence("2 if they look alike, their sets have nothing in common, and one of these is 0");
        pair(check, 2, Check.row(0, 2), Check.row(0, 18));
        pair(check, 2, Check.row(0, 18), Check.row(0, 2));
        pair(check, 2, Check.row(16, 2), Check.row(0, 18));
    }

    private static void alikeNothingInCommon(Check check) {
        check.sentence("3 if they look alike, their sets have nothing in common, and none is 0");
        pair(check, 3, Check.row(0), Check.row(16));
        pair(check, 3, Check.row(15), Check.row(47));
        pair(check, 3, Check.row(30), Check.row(100));
    }

    private static void notAlike(Check check) {
        check.sentence("NONE if they don't look alike");
        pair(check, NONE, Check.row(0), Check.row());
        pair(check, NONE, Check.row(0), Check.row(120));
        pair(check, NONE, Check.row(0), Check.row(16, 16));
        pair(check, NONE, Check.row(0, 0), Check.row(16));
        pair(check, NONE, Check.row(1), Check.row(17));
        pair(check, NONE, Check.fullText(127, 0), Check.fullText(127, 1));
    }

    private static void noSuchNameAlike(Check check) {
        check.sentence("NONE if they don't look alike. IndexOutOfBoundsException when there is no such name.");
        alikeOutside(check, Check.desk(5), 0);
        alikeOutside(check, withNames(Check.row(5)), 1);
        LookalikeDesk desk = Check.fullRegister();
        alikeOutside(check, desk, 12);
        check.due("the first", desk.alike(0), NONE);
        check.due("the last", desk.alike(11), 0);
        desk.withdraw(11);
        alikeOutside(check, desk, 11);
    }

    private static void alikeOutside(Check check, LookalikeDesk desk, int count) {
        for (int name : Check.outside(count)) {
            check.dueThrow("alike(" + name + ") of " + count, IndexOutOfBoundsException.class, () -> desk.alike(name));
        }
    }

    private static void fromOn(Check check) {
        check.sentence("The first name, from number from on (below 0: from 0 on), that looks like the text");
        LookalikeDesk desk = new LookalikeDesk();
        Check.registered(desk, 0);
        for (int i = 1; i < 11; i++) {
            Check.registered(desk, i);
        }
        Check.registered(desk, 16);
        Check.put(desk, 32);
        for (int from : Check.row(Integer.MIN_VALUE, Integer.MIN_VALUE + 1, -65536, -12, -1, 0)) {
            check.due("lookalike(" + from + ")", desk.lookalike(from), 0);
        }
        for (int from = 1; from < 12; from++) {
            check.due("lookalike(" + from + ")", desk.lookalike(from), 11);
        }
    }

    private static void noLookalike(Check check) {
        check.sentence("that looks like the text; NONE.");
        check.due("no names", Check.desk(0).lookalike(0), NONE);
        check.due("no names, no text", new LookalikeDesk().lookalike(Integer.MIN_VALUE), NONE);
        LookalikeDesk desk = Check.fullRegister();
        check.due("only the same", desk.lookalike(0), NONE);
        Check.put(desk, 16, 11);
        check.due("the last one", desk.lookalike(11), 11);
        for (int from : Check.row(12, 13, 256, 65536, 1 << 29, Integer.MAX_VALUE - 1, Integer.MAX_VALUE)) {
            check.due("lookalike(" + from + ")", desk.lookalike(from), NONE);
        }
        desk.withdraw(11);
        check.due("withdrawn", desk.lookalike(0), NONE);
        check.due("where it was", desk.lookalike(11), NONE);
    }
}
