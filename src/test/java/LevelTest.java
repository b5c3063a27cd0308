/** Promise 7: level. */
public final class LevelTest {
    public static void main(String[] args) {
        Check check = new Check();
        singleCharacters(check);
        check.dueLevel(1);
        check.dueLevel(1, 0, 15, 96, 99, 112, 113, 114);
        check.dueLevel(6, 0, 115);
        check.dueLevel(6, 0, 16, 123);
        check.dueLevel(2, 0, 124);
        check.dueLevel(2, 0, 104);
        check.dueLevel(2, 16, 31, 96, 113);
        check.dueLevel(2, 100, 96);
        check.dueLevel(2, 48, 64, 72);
        check.dueLevel(3, 0, 48);
        check.dueLevel(3, 0, 48, 88, 96);
        check.dueLevel(3, 124, 48, 64, 72, 104);
        check.dueLevel(3, 0, 48, 80);
        check.dueLevel(3, 0, 64, 72);
        check.dueLevel(3, 0, 80);
        check.dueLevel(3, 0, 88);
        check.dueLevel(4, 0, 100);
        check.dueLevel(4, 124, 103, 99, 112);
        check.dueLevel(5, 0, 16);
        check.dueLevel(5, 0, 32);
        check.dueLevel(5, 16, 32);
        check.dueLevel(5, 16, 100);
        check.dueLevel(5, 48, 100);
        check.dueLevel(5, 0, 48, 100);
        check.dueLevel(5, 48, 80, 88);
        check.dueLevel(5, 64, 80);
        check.dueLevel(5, 0, 64, 88);
        check.dueLevel(5, 0, 72, 80);
        check.end();
    }

    private static void singleCharacters(Check check) {
        for (int c = 0; c < 128; c++) {
            boolean forbidden = c >= 115 && c <= 123;
            boolean plain = c <= 15 || c >= 96 && c <= 99 || c >= 112 && c <= 114;
            check.dueLevel(forbidden ? 6 : plain ? 1 : 2, c);
        }
    }
}
