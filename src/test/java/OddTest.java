/** Promise 8: odd. */
public final class OddTest {
    public static void main(String[] args) {
        Check check = new Check();
        digits(check);
        sameMarks(check);
        invisible(check);
        looseMarks(check);
        text(check, 15, 96, 103, 110, 110, 122);
        text(check, 0);
        check.end();
    }

    private static void digits(Check check) {
        text(check, 0, 96, 97, 98, 99);
        text(check, 0, 100, 101, 102, 103);
        text(check, 1, 96, 100);
        text(check, 1, 103, 5, 99);
        text(check, 0, 99, 5, 95);
    }

    private static void sameMarks(Check check) {
        text(check, 2, 1, 104, 104);
        text(check, 0, 1, 104, 105);
        text(check, 0, 1, 1, 2, 2);
        text(check, 0, 1, 104, 1, 104);
        // Taken apart, 104 and 104 meet: 110 goes behind both.
        text(check, 2, 1, 104, 110, 104);
        // 104, 105, 104 have one class and stay.
        text(check, 0, 1, 104, 105, 104);
        // 108 and 109 are of one class, between those of 104 .. 107 and of 110 and 111.
        text(check, 2, 1, 110, 109, 110);
        text(check, 2, 1, 109, 110, 109);
        text(check, 2, 1, 109, 107, 109);
        text(check, 0, 1, 109, 108, 109);
        text(check, 2, 1, 108, 111, 108);
        text(check, 0, 1, 110, 111, 110);
        text(check, 10, 104, 104);
        text(check, 2, 124, 104);
        text(check, 0, 125, 104);
        text(check, 2, 125, 110, 105);
        // The prototype of 109 is 105, but only the skeleton has it.
        text(check, 0, 1, 105, 109);
        text(check, 12, 1, 104, 120, 104);
    }

    private static void invisible(Check check) {
        for (int c = 120; c <= 123; c++) {
            text(check, 4, 1, c);
        }
        text(check, 0, 1, 119, 118, 117, 116, 115, 124);
    }

    private static void looseMarks(Check check) {
        text(check, 8, 104);
        text(check, 8, 111, 1);
        for (int c = 0; c < 96; c++) {
            text(check, 0, c, 106);
        }
        for (int c = 96; c < 104; c++) {
            text(check, 8, c, 106);
        }
        for (int c = 112; c < 120; c++) {
            text(check, 8, 1, c, 106);
        }
        text(check, 12, 1, 121, 106);
        text(check, 0, 126, 107);
        text(check, 0, 1, 104, 105, 108, 110);
        // A composed one has its mark right behind its letter.
        text(check, 0, 96, 127);
    }

    private static void text(Check check, int odd, int... characters) {
        check.due("odd of " + java.util.Arrays.toString(characters), Check.desk(characters).odd(), odd);
    }
}
