/** Promise 13: ranked. */
public final class RankedTest {
    public static void main(String[] args) {
        Check check = new Check();
        bySkeleton(check);
        equalOnes(check);
        prefixes(check);
        wrongPlaces(check);
        check.end();
    }

    private static void ranks(Check check, String what, LookalikeDesk desk, int... due) {
        int[] got = new int[due.length];
        for (int i = 0; i < due.length; i++) {
            got[i] = desk.ranked(i);
        }
        check.dueRow(what, got, due);
        check.dueThrow(what + ": behind the last", IndexOutOfBoundsException.class, () -> desk.ranked(due.length));
    }

    private static void bySkeleton(Check check) {
        LookalikeDesk desk = new LookalikeDesk();
        Check.registered(desk, 17);
        // 30 becomes 14, so it goes before 17 and 15.
        Check.registered(desk, 30);
        Check.registered(desk, 15);
        Check.registered(desk, 3);
        // 12 becomes 13, 15.
        Check.registered(desk, 12);
        Check.registered(desk, 13, 14);
        ranks(check, "by skeletons", desk, 3, 5, 4, 1, 2, 0);
        desk.withdraw(3);
        ranks(check, "one withdrawn", desk, 4, 3, 1, 2, 0);
        Check.registered(desk, 125);
        ranks(check, "one more", desk, 5, 4, 3, 1, 2, 0);
    }

    private static void equalOnes(Check check) {
        LookalikeDesk desk = new LookalikeDesk();
        Check.registered(desk, 32);
        Check.registered(desk, 1);
        Check.registered(desk, 0);
        Check.registered(desk, 16);
        ranks(check, "equal ones by number", desk, 0, 2, 3, 1);
        desk.withdraw(0);
        Check.registered(desk, 32);
        ranks(check, "the first of them is the last now", desk, 1, 2, 3, 0);
    }

    private static void prefixes(Check check) {
        LookalikeDesk desk = new LookalikeDesk();
        Check.registered(desk, 5, 0, 0);
        Check.registered(desk, 5, 0);
        Check.registered(desk, 5);
        Check.registered(desk, 4, 112, 112, 112);
        Check.registered(desk, 5, 112);
        ranks(check, "which ends first", desk, 3, 2, 1, 0, 4);
    }

    private static void wrongPlaces(Check check) {
        LookalikeDesk desk = Check.desk(1);
        desk.register();
        for (int i : new int[] {-1, 1, 11, 12, Integer.MIN_VALUE, Integer.MAX_VALUE}) {
            check.dueThrow("ranked(" + i + ")", IndexOutOfBoundsException.class, () -> desk.ranked(i));
        }
        check.due("ranked(0)", desk.ranked(0), 0);
    }
}
