/** Promises 15 and 16: alike and lookalike. */
public final class AlikeTest {
    private static final int NONE = LookalikeDesk.NONE;

    public static void main(String[] args) {
        Check check = new Check();
        likeness(check);
        textsThatAreNoIdentifiers(check);
        wrongNames(check);
        firstLookalike(check);
        check.end();
    }

    private static void pair(Check check, int due, int[] name, int[] text) {
        LookalikeDesk desk = Check.desk(name);
        desk.register();
        Check.put(desk, text);
        String what = java.util.Arrays.toString(text) + " and name " + java.util.Arrays.toString(name);
        check.due("alike: " + what, desk.alike(0), due);
        check.due("lookalike: " + what, desk.lookalike(0), due > 0 ? 0 : NONE);
    }

    private static void likeness(Check check) {
        pair(check, 0, Check.row(1, 2), Check.row(1, 2));
        pair(check, 0, Check.row(0, 16), Check.row(0, 16));
        pair(check, NONE, Check.row(1, 2), Check.row(1));
        pair(check, NONE, Check.row(1), Check.row(17));
        pair(check, NONE, Check.row(1), Check.row());
        // Both LATIN.
        pair(check, 1, Check.row(12), Check.row(13, 15));
        pair(check, 1, Check.row(124), Check.row(0, 104));
        pair(check, 1, Check.row(1, 105), Check.row(1, 109));
        pair(check, 1, Check.row(1, 97), Check.row(1, 11));
        // HAN and KATAKANA have JAPANESE in common.
        pair(check, 1, Check.row(48), Check.row(72));
        pair(check, 1, Check.row(55), Check.row(73, 49));
        // One set is 0, on either side, or both are.
        pair(check, 2, Check.row(0, 2), Check.row(0, 18));
        pair(check, 2, Check.row(0, 18), Check.row(0, 2));
        pair(check, 2, Check.row(16, 2), Check.row(0, 18));
        // LATIN and CYRILLIC, CYRILLIC and GREEK.
        pair(check, 3, Check.row(0), Check.row(16));
        pair(check, 3, Check.row(22), Check.row(38));
    }

    private static void textsThatAreNoIdentifiers(Check check) {
        pair(check, 1, Check.row(1, 2), Check.row(1, 120, 2));
        pair(check, 1, Check.row(1, 2), Check.row(121, 1, 2, 123));
        pair(check, 1, Check.row(14, 1), Check.row(96, 1));
        // 100 is ARABIC and 14 LATIN; 30 is CYRILLIC.
        pair(check, 3, Check.row(14), Check.row(100));
        pair(check, 3, Check.row(30), Check.row(100));
        pair(check, 1, Check.row(14), Check.row(96));
    }

    private static void wrongNames(Check check) {
        LookalikeDesk desk = Check.desk(1);
        desk.register();
        for (int name : new int[] {-1, 1, 11, 12, Integer.MIN_VALUE, Integer.MAX_VALUE}) {
            check.dueThrow("alike(" + name + ")", IndexOutOfBoundsException.class, () -> desk.alike(name));
        }
    }

    private static void firstLookalike(Check check) {
        LookalikeDesk desk = new LookalikeDesk();
        Check.registered(desk, 1);
        Check.registered(desk, 0);
        Check.registered(desk, 16);
        Check.registered(desk, 17);
        Check.registered(desk, 32);
        Check.put(desk, 0);
        int[] due = {2, 2, 2, 4, 4, NONE, NONE};
        for (int from = 0; from < due.length; from++) {
            check.due("lookalike(" + from + ")", desk.lookalike(from), due[from]);
        }
        check.due("lookalike(-1)", desk.lookalike(-1), 2);
        check.due("lookalike(least)", desk.lookalike(Integer.MIN_VALUE), 2);
        check.due("lookalike(most)", desk.lookalike(Integer.MAX_VALUE), NONE);
        desk.withdraw(2);
        check.due("one withdrawn", desk.lookalike(0), 3);
        desk.withdraw(3);
        check.due("both withdrawn", desk.lookalike(0), NONE);
        Check.put(desk, 16);
        check.due("another text", desk.lookalike(0), 1);
    }
}
