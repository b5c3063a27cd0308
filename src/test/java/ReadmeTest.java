import java.io.IOException;
import java.nio.file.Files;
import java.nio.file.Path;
import java.util.List;

/** README.md's example answers what it says; run where README.md lies. */
public final class ReadmeTest {
    private final Check check = new Check();
    private final LookalikeDesk desk = new LookalikeDesk();
    private final List<String> lines;
    private int next;

    private ReadmeTest(List<String> lines) {
        this.lines = lines;
        next = lines.indexOf("LookalikeDesk desk = new LookalikeDesk();") + 1;
    }

    public static void main(String[] args) throws IOException {
        new ReadmeTest(Files.readAllLines(Path.of("README.md"))).run();
    }

    private void run() {
        told("desk.type(0x000203L, 3);", desk.type(0x000203L, 3));
        told("desk.register();", desk.register());
        told("desk.wipe();", desk.wipe());
        told("desk.type(0x101203L, 3);", desk.type(0x101203L, 3));
        told("desk.lookalike(0);", desk.lookalike(0));
        told("desk.alike(0);", desk.alike(0));
        check.due("the line behind the example", lines.get(next), "```");
        check.end();
    }

    private void told(String call, int answer) {
        String line = lines.get(next);
        next++;
        check.due("a line of the example", line.substring(0, Math.min(line.length(), call.length())), call);
        check.due("the answer in '" + line + "'", line.replaceAll(".*answers (-?[0-9]+).*", "$1"), "" + answer);
    }
}
