/** Promise 6: scripts. */
public final class ScriptsTest {
    public static void main(String[] args) {
        Check check = new Check();
        range(check, 0, 15, 1);
        range(check, 16, 31, 2);
        range(check, 32, 47, 4);
        range(check, 48, 63, 8 + 512 + 1024 + 2048);
        range(check, 64, 71, 16 + 1024);
        range(check, 72, 79, 32 + 1024);
        range(check, 80, 87, 64 + 2048);
        range(check, 88, 95, 128 + 512);
        range(check, 96, 99, 4095);
        range(check, 100, 103, 256);
        range(check, 104, 123, 4095);
        range(check, 124, 127, 1);
        check.dueScripts(4095);
        check.dueScripts(4095, 96, 104, 112, 115, 120);
        check.dueScripts(1, 0, 96, 124, 104);
        check.dueScripts(0, 0, 16);
        check.dueScripts(1024, 48, 64, 72);
        check.dueScripts(2048, 48, 80);
        check.dueScripts(512, 48, 88);
        check.dueScripts(0, 48, 80, 88);
        check.dueScripts(0, 80, 64);
        check.dueScripts(0, 5, 100);
        check.dueScripts(256, 100, 97, 103);
        check.end();
    }

    private static void range(Check check, int from, int to, int set) {
        for (int c = from; c <= to; c++) {
            check.dueScripts(set, c);
        }
    }
}
