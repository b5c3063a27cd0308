/** Promises 1 to 3: a new object, type and wipe. */
public final class TypeAndWipeTest {
    public static void main(String[] args) {
        Check check = new Check();
        newObject(check);
        orderOfBytes(check);
        wrongArguments(check);
        limit(check);
        wiping(check);
        twoDesks(check);
        check.end();
    }

    private static void newObject(Check check) {
        LookalikeDesk desk = new LookalikeDesk();
        check.due("new: wipe", desk.wipe(), 0);
        check.due("new: skeleton", desk.skeleton(), 0);
        check.due("new: skeletonAt(0)", desk.skeletonAt(0), LookalikeDesk.NONE);
        check.due("new: scripts", desk.scripts(), 4095);
        check.due("new: level", desk.level(), 1);
        check.due("new: odd", desk.odd(), 0);
        check.due("new: words", desk.words(), 0);
        check.due("new: lookalike", desk.lookalike(0), LookalikeDesk.NONE);
        check.dueThrow("new: withdraw(0)", IndexOutOfBoundsException.class, () -> desk.withdraw(0));
        check.dueThrow("new: ranked(0)", IndexOutOfBoundsException.class, () -> desk.ranked(0));
        check.dueThrow("new: nameAt(0, 0)", IndexOutOfBoundsException.class, () -> desk.nameAt(0, 0));
        check.dueThrow("new: alike(0)", IndexOutOfBoundsException.class, () -> desk.alike(0));
        check.dueThrow("new: word(0, 0)", IllegalArgumentException.class, () -> desk.word(0, 0));
    }

    private static void orderOfBytes(Check check) {
        LookalikeDesk desk = new LookalikeDesk();
        check.due("type 3", desk.type(0x010203L, 3), 3);
        check.due("type 2 behind", desk.type(0x0405L, 2), 5);
        check.dueRow("highest first, behind what was there", Check.skeletonOf(desk), 1, 2, 3, 4, 5);
        desk.wipe();
        check.due("type 8", desk.type(0x0102030405060708L, 8), 8);
        check.dueRow("eight bytes", Check.skeletonOf(desk), 1, 2, 3, 4, 5, 6, 7, 8);
        desk.wipe();
        check.due("bytes above the lowest n don't count", desk.type(0xFFFFFFFFFFFF0709L, 2), 2);
        check.dueRow("the lowest two", Check.skeletonOf(desk), 7, 9);
        check.due("zeros are characters", desk.type(0L, 8), 10);
        check.due("127 is a character", desk.type(0x7F7F7F7F7F7F7F7FL, 8), 18);
    }

    private static void wrongArguments(Check check) {
        LookalikeDesk desk = Check.desk(1, 2);
        for (int n : new int[] {Integer.MIN_VALUE, -1, 0, 9, 16, Integer.MAX_VALUE}) {
            check.dueThrow("type(1, " + n + ")", IllegalArgumentException.class, () -> desk.type(1L, n));
        }
        for (int place = 0; place < 8; place++) {
            long above = 128L << (8 * place);
            check.dueThrow("type(" + above + ", 8)", IllegalArgumentException.class, () -> desk.type(above, 8));
            int n = place + 1;
            check.dueThrow("type(" + above + ", " + n + ")", IllegalArgumentException.class,
                    () -> desk.type(above, n));
        }
        check.dueThrow("type(-1, 1)", IllegalArgumentException.class, () -> desk.type(-1L, 1));
        check.dueRow("the text stays", Check.skeletonOf(desk), 1, 2);
    }

    private static void limit(Check check) {
        LookalikeDesk desk = Check.desk(Check.repeated(1, 41));
        check.dueThrow("49 characters", IllegalStateException.class, () -> desk.type(0L, 8));
        check.due("48 characters", desk.type(0x02020202020202L, 7), 48);
        check.dueThrow("one more", IllegalStateException.class, () -> desk.type(0L, 1));
        check.dueThrow("wrong n comes first", IllegalArgumentException.class, () -> desk.type(0L, 9));
        check.dueThrow("wrong byte comes first", IllegalArgumentException.class, () -> desk.type(200L, 1));
        check.due("the text stays", desk.skeleton(), 48);
        check.due("its last", desk.skeletonAt(47), 2);
        check.due("wiped", desk.wipe(), 48);
        check.due("room again", desk.type(0L, 1), 1);
    }

    private static void wiping(Check check) {
        LookalikeDesk desk = Check.desk(1, 120, 104);
        desk.wipe();
        check.due("wiped twice", desk.wipe(), 0);
        check.due("wiped: skeleton", desk.skeleton(), 0);
        check.due("wiped: skeletonAt", desk.skeletonAt(0), LookalikeDesk.NONE);
        check.due("wiped: odd", desk.odd(), 0);
        check.due("wiped: words", desk.words(), 0);
        Check.put(desk, 5);
        desk.register();
        check.due("wipe answers the count", desk.wipe(), 1);
        check.due("wipe leaves the register", desk.nameAt(0, 0), 5);
    }

    private static void twoDesks(Check check) {
        LookalikeDesk one = Check.desk(1, 2);
        LookalikeDesk other = Check.desk(3);
        one.register();
        check.due("another desk's text", other.wipe(), 1);
        check.dueThrow("another desk's register", IndexOutOfBoundsException.class, () -> other.nameAt(0, 0));
    }
}
