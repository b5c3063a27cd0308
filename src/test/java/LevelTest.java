/** Promise 7: level. */
public final class LevelTest {
    public static void main(String[] args) {
        Check check = new Check();
        singleCharacters(check);
        text(check, 1);
        text(check, 1, 0, 15, 96, 99, 112, 113, 114);
        text(check, 6, 0, 115);
        text(check, 6, 0, 16, 123);
        text(check, 2, 0, 124);
        text(check, 2, 0, 104);
        text(check, 2, 16, 31, 96, 113);
        text(check, 2, 100, 96);
        text(check, 2, 48, 64, 72);
        text(check, 3, 0, 48);
        text(check, 3, 0, 48, 88, 96);
        text(check, 3, 124, 48, 64, 72, 104);
        text(check, 3, 0, 48, 80);
        text(check, 3, 0, 64, 72);
        text(check, 3, 0, 80);
        text(check, 3, 0, 88);
        text(check, 4, 0, 100);
        text(check, 4, 124, 103, 99, 112);
        text(check, 5, 0, 16);
        text(check, 5, 0, 32);
        text(check, 5, 16, 32);
        text(check, 5, 16, 100);
        text(check, 5, 48, 100);
        text(check, 5, 0, 48, 100);
        text(check, 5, 48, 80, 88);
        text(check, 5, 64, 80);
        text(check, 5, 0, 64, 88);
        text(check, 5, 0, 72, 80);
        check.end();
    }

    private static void singleCharacters(Check check) {
        for (int c = 0; c < 128; c++) {
            boolean forbidden = c >= 115 && c <= 123;
            boolean plain = c <= 15 || c >= 96 && c <= 99 || c >= 112 && c <= 114;
            text(check, forbidden ? 6 : plain ? 1 : 2, c);
        }
    }

    private static void text(Check check, int level, int... characters) {
        check.due("level of " + java.util.Arrays.toString(characters), Check.desk(characters).level(), level);
    }
}
