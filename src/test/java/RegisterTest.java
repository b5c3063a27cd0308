/** Promises 11, 12 and 14: register, withdraw and nameAt. */
public final class RegisterTest {
    private static final int NONE = LookalikeDesk.NONE;

    public static void main(String[] args) {
        Check check = new Check();
        identifiersOnly(check);
        keeping(check);
        fullRegister(check);
        withdrawing(check);
        namesApartFromText(check);
        check.end();
    }

    private static void refused(Check check, int... text) {
        LookalikeDesk desk = Check.desk(text);
        check.dueThrow("register of " + java.util.Arrays.toString(text), IllegalArgumentException.class,
                desk::register);
        check.dueThrow("nothing was registered", IndexOutOfBoundsException.class, () -> desk.nameAt(0, 0));
        check.due("the text stays", desk.wipe(), text.length);
    }

    private static void taken(Check check, int... text) {
        LookalikeDesk desk = Check.desk(text);
        check.due("register of " + java.util.Arrays.toString(text), desk.register(), 1);
    }

    private static void identifiersOnly(Check check) {
        refused(check);
        for (int c = 0; c < 128; c++) {
            if (c <= 95 || c >= 124) {
                taken(check, c);
            } else {
                refused(check, c);
            }
        }
        refused(check, 96, 1);
        refused(check, 115, 1);
        refused(check, 1, 115);
        refused(check, 1, 113);
        refused(check, 1, 113, 114, 1);
        refused(check, 1, 115, 2);
        refused(check, 1, 120, 2);
        taken(check, 1, 104, 96, 100, 112, 113, 2, 114, 112, 127);
        taken(check, Check.repeated(124, 48));
    }

    private static void keeping(Check check) {
        LookalikeDesk desk = Check.desk(12, 124, 104);
        check.due("first name", desk.register(), 1);
        check.dueThrow("the same again", IllegalStateException.class, desk::register);
        check.due("the text stays", desk.skeleton(), 5);
        check.due("nameAt(0, 0)", desk.nameAt(0, 0), 12);
        check.due("nameAt(0, 1)", desk.nameAt(0, 1), 124);
        check.due("nameAt(0, 2)", desk.nameAt(0, 2), 104);
        for (int i : new int[] {3, -1, 48, Integer.MIN_VALUE, Integer.MAX_VALUE}) {
            check.due("nameAt(0, " + i + ")", desk.nameAt(0, i), NONE);
        }
        for (int name : new int[] {-1, 1, 11, 12, Integer.MIN_VALUE, Integer.MAX_VALUE}) {
            check.dueThrow("nameAt(" + name + ", 0)", IndexOutOfBoundsException.class, () -> desk.nameAt(name, 0));
            check.dueThrow("nameAt(" + name + ", -1)", IndexOutOfBoundsException.class, () -> desk.nameAt(name, -1));
        }
        check.due("one that looks like it", Check.registered(desk, 13, 15, 0, 104, 104), 2);
        check.due("one that begins with it", Check.registered(desk, 12, 124, 104, 1), 3);
        check.due("one that it begins with", Check.registered(desk, 12, 124), 4);
    }

    private static LookalikeDesk twelveNames(Check check) {
        LookalikeDesk desk = new LookalikeDesk();
        for (int i = 0; i < 12; i++) {
            check.due("name " + i, Check.registered(desk, 15 - i, i), i + 1);
        }
        return desk;
    }

    private static void fullRegister(Check check) {
        LookalikeDesk desk = twelveNames(check);
        check.dueThrow("full, a name already", IllegalStateException.class, desk::register);
        Check.put(desk, 1);
        check.dueThrow("full", IllegalStateException.class, desk::register);
        Check.put(desk, 96);
        check.dueThrow("full, but no identifier", IllegalArgumentException.class, desk::register);
        check.due("withdraw one", desk.withdraw(11), 11);
        check.due("room again", Check.registered(desk, 1), 12);
        check.due("it is the last", desk.nameAt(11, 0), 1);
    }

    private static void withdrawing(Check check) {
        LookalikeDesk desk = twelveNames(check);
        for (int name : new int[] {-1, 12, Integer.MIN_VALUE, Integer.MAX_VALUE}) {
            check.dueThrow("withdraw(" + name + ")", IndexOutOfBoundsException.class, () -> desk.withdraw(name));
        }
        check.due("withdraw(3)", desk.withdraw(3), 11);
        check.due("the one before", desk.nameAt(2, 1), 2);
        for (int name = 3; name < 11; name++) {
            check.due("one less: " + name, desk.nameAt(name, 1), name + 1);
        }
        check.dueThrow("nameAt(11, 0)", IndexOutOfBoundsException.class, () -> desk.nameAt(11, 0));
        check.due("withdrawn, it can come again", Check.registered(desk, 12, 3), 12);
        check.due("as the last", desk.nameAt(11, 0), 12);
        check.due("the one before stays", desk.nameAt(10, 1), 11);
        for (int left = 11; left >= 0; left--) {
            check.due("withdraw(0)", desk.withdraw(0), left);
        }
        check.dueThrow("none is left", IndexOutOfBoundsException.class, () -> desk.withdraw(0));
        check.due("the text stays", desk.wipe(), 2);
    }

    private static void namesApartFromText(Check check) {
        LookalikeDesk desk = Check.desk(1, 2);
        desk.register();
        Check.add(desk, 3);
        check.due("typed on", desk.nameAt(0, 2), NONE);
        Check.put(desk, 17);
        check.due("another text", desk.nameAt(0, 0), 1);
        desk.withdraw(0);
        check.due("the text stays", desk.wipe(), 1);
        Check.registered(desk, 4);
        check.due("nothing of the longer name", desk.nameAt(0, 1), NONE);
    }
}
