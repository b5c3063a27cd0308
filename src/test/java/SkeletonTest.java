/** Promises 4 and 5: skeleton and skeletonAt. */
public final class SkeletonTest {
    public static void main(String[] args) {
        Check check = new Check();
        singleCharacters(check);
        marks(check);
        invisible(check);
        places(check);
        longest(check);
        check.end();
    }

    private static void singleCharacters(Check check) {
        int[][] due = new int[128][];
        for (int c = 0; c < 128; c++) {
            due[c] = new int[] {c};
        }
        int[] two = {13, 15};
        due[12] = two;
        for (int k : new int[] {0, 2, 4, 6, 8, 10, 14}) {
            due[16 + k] = new int[] {k};
        }
        due[28] = two;
        for (int k : new int[] {0, 3, 6, 9, 15}) {
            due[32 + k] = new int[] {k};
        }
        due[44] = two;
        due[72] = new int[] {48};
        due[73] = new int[] {49};
        due[74] = new int[] {50};
        due[55] = new int[] {49, 49};
        due[96] = new int[] {14};
        due[100] = new int[] {14};
        due[97] = new int[] {11};
        due[101] = new int[] {11};
        due[109] = new int[] {105};
        due[118] = new int[] {114, 114};
        for (int c = 120; c <= 123; c++) {
            due[c] = new int[] {};
        }
        due[124] = new int[] {0, 104};
        due[125] = new int[] {4, 105};
        due[126] = new int[] {8, 106};
        due[127] = new int[] {13, 15, 107};
        for (int c = 0; c < 128; c++) {
            check.dueSkeleton(Check.row(c), due[c]);
        }
    }

    private static void marks(Check check) {
        check.dueSkeleton(Check.row(1, 110, 108, 104), 1, 104, 108, 110);
        check.dueSkeleton(Check.row(1, 107, 104, 106, 105), 1, 107, 104, 106, 105);
        check.dueSkeleton(Check.row(1, 111, 110, 111), 1, 111, 110, 111);
        check.dueSkeleton(Check.row(110, 104, 1, 110, 104), 104, 110, 1, 104, 110);
        check.dueSkeleton(Check.row(1, 110, 112, 104), 1, 110, 112, 104);
        // The order before the prototypes counts: 109 stands behind 104 when it becomes 105.
        check.dueSkeleton(Check.row(1, 109, 104), 1, 104, 105);
        check.dueSkeleton(Check.row(1, 109, 104, 105), 1, 104, 105, 105);
        // The order behind the prototypes counts too: 105 from 109 goes before 108.
        check.dueSkeleton(Check.row(1, 108, 109), 1, 105, 108);
        check.dueSkeleton(Check.row(1, 108, 109, 108, 109), 1, 105, 105, 108, 108);
        check.dueSkeleton(Check.row(127, 104, 110), 13, 15, 107, 104, 110);
        check.dueSkeleton(Check.row(110, 124, 108), 110, 0, 104, 108);
    }

    private static void invisible(Check check) {
        check.dueSkeleton(Check.row(120, 121, 122, 123));
        check.dueSkeleton(Check.row(1, 120, 2, 123), 1, 2);
        // They are left out before the text is taken apart, so the marks round one make one run.
        check.dueSkeleton(Check.row(1, 110, 121, 104), 1, 104, 110);
    }

    private static void places(Check check) {
        LookalikeDesk desk = Check.desk(12, 7);
        check.due("skeleton()", desk.skeleton(), 3);
        check.due("skeletonAt(0)", desk.skeletonAt(0), 13);
        check.due("skeletonAt(2)", desk.skeletonAt(2), 7);
        for (int i : new int[] {3, 48, 144, 1000, Integer.MAX_VALUE, -1, Integer.MIN_VALUE}) {
            check.due("skeletonAt(" + i + ")", desk.skeletonAt(i), LookalikeDesk.NONE);
        }
        Check.add(desk, 9);
        check.due("typed on", desk.skeletonAt(3), 9);
        Check.put(desk, 8);
        check.dueRow("a new text", Check.skeletonOf(desk), 8);
        check.due("nothing of the old one", desk.skeletonAt(1), LookalikeDesk.NONE);
    }

    private static void longest(Check check) {
        LookalikeDesk desk = Check.desk(Check.repeated(127, 48));
        check.due("the longest skeleton", desk.skeleton(), 144);
        check.due("its last but two", desk.skeletonAt(141), 13);
        check.due("its last", desk.skeletonAt(143), 107);
        check.due("behind it", desk.skeletonAt(144), LookalikeDesk.NONE);
    }
}
