/** Promise 8: odd. */
public final class OddTest {
    public static void main(String[] args) {
        Check check = new Check();
        digits(check);
        sameMarks(check);
        invisible(check);
        looseMarks(check);
        check.dueOdd(15, 96, 103, 110, 110, 122);
        check.dueOdd(0);
        check.end();
    }

    private static void digits(Check check) {
        check.dueOdd(0, 96, 97, 98, 99);
        check.dueOdd(0, 100, 101, 102, 103);
        check.dueOdd(1, 96, 100);
        check.dueOdd(1, 103, 5, 99);
        check.dueOdd(0, 99, 5, 95);
    }

    private static void sameMarks(Check check) {
        check.dueOdd(2, 1, 104, 104);
        check.dueOdd(0, 1, 104, 105);
        check.dueOdd(0, 1, 1, 2, 2);
        check.dueOdd(0, 1, 104, 1, 104);
        // Taken apart, 104 and 104 meet: 110 goes behind both.
        check.dueOdd(2, 1, 104, 110, 104);
        // 104, 105, 104 have one class and stay.
        check.dueOdd(0, 1, 104, 105, 104);
        // 108 and 109 are of one class, between those of 104 .. 107 and of 110 and 111.
        check.dueOdd(2, 1, 110, 109, 110);
        check.dueOdd(2, 1, 109, 110, 109);
        check.dueOdd(2, 1, 109, 107, 109);
        check.dueOdd(0, 1, 109, 108, 109);
        check.dueOdd(2, 1, 108, 111, 108);
        check.dueOdd(0, 1, 110, 111, 110);
        check.dueOdd(10, 104, 104);
        check.dueOdd(2, 124, 104);
        check.dueOdd(0, 125, 104);
        check.dueOdd(2, 125, 110, 105);
        // The prototype of 109 is 105, but only the skeleton has it.
        check.dueOdd(0, 1, 105, 109);
        check.dueOdd(12, 1, 104, 120, 104);
    }

    private static void invisible(Check check) {
        for (int c = 120; c <= 123; c++) {
            check.dueOdd(4, 1, c);
        }
        check.dueOdd(0, 1, 119, 118, 117, 116, 115, 124);
    }

    private static void looseMarks(Check check) {
        check.dueOdd(8, 104);
        check.dueOdd(8, 111, 1);
        for (int c = 0; c < 96; c++) {
            check.dueOdd(0, c, 106);
        }
        for (int c = 96; c < 104; c++) {
            check.dueOdd(8, c, 106);
        }
        for (int c = 112; c < 120; c++) {
            check.dueOdd(8, 1, c, 106);
        }
        check.dueOdd(12, 1, 121, 106);
        check.dueOdd(0, 126, 107);
        check.dueOdd(0, 1, 104, 105, 108, 110);
        // A composed one has its mark right behind its letter.
        check.dueOdd(0, 96, 127);
    }
}
