import java.util.Arrays;

/** Every text of one and of two characters, all that can be asked of it set against the plain desk's answers. */
public final class ShortTextsTest {
    private static final int CHARACTERS = 128;
    // Two composed characters become six at most; one place more on either side is asked.
    private static final int LONGEST_SKELETON = 6;

    private final Check check;
    private final LookalikeDesk desk = new LookalikeDesk();
    private final PlainDesk plain = new PlainDesk();
    private final String text;

    private ShortTextsTest(Check check, int... characters) {
        this.check = check;
        text = Arrays.toString(characters);
        long packed = Check.packed(characters);
        same("type", () -> desk.type(packed, characters.length), () -> plain.type(packed, characters.length));
    }

    public static void main(String[] args) {
        Check check = new Check();
        for (int first = 0; first < CHARACTERS; first++) {
            new ShortTextsTest(check, first).ask();
            for (int second = 0; second < CHARACTERS; second++) {
                new ShortTextsTest(check, first, second).ask();
            }
            pairs(check, first);
        }
        check.end();
    }

    private void ask() {
        same("skeleton", desk::skeleton, plain::skeleton);
        for (int i = -1; i <= LONGEST_SKELETON; i++) {
            int place = i;
            same("skeletonAt " + i, () -> desk.skeletonAt(place), () -> plain.skeletonAt(place));
        }
        same("scripts", desk::scripts, plain::scripts);
        same("level", desk::level, plain::level);
        same("odd", desk::odd, plain::odd);
        same("words", desk::words, plain::words);
        same("where word 0 begins", () -> desk.word(0, 0), () -> plain.word(0, 0));
        same("how long word 0 is", () -> desk.word(0, 1), () -> plain.word(0, 1));
        same("where word 1 begins", () -> desk.word(1, 0), () -> plain.word(1, 0));
        same("register", desk::register, plain::register);
    }

    /** A name of one letter against every text of one character; what is no letter has no name. */
    private static void pairs(Check check, int name) {
        for (int c = 0; c < CHARACTERS; c++) {
            new ShortTextsTest(check, name).askAlike(c);
        }
    }

    private void askAlike(int c) {
        same("register", desk::register, plain::register);
        same("wipe", desk::wipe, plain::wipe);
        same("type " + c, () -> desk.type(c, 1), () -> plain.type(c, 1));
        same("alike to " + c, () -> desk.alike(0), () -> plain.alike(0));
        same("lookalike of " + c, () -> desk.lookalike(0), () -> plain.lookalike(0));
        same("the name that word " + c + " looks like", () -> desk.word(0, 3), () -> plain.word(0, 3));
    }

    private void same(String what, Check.Call call, Check.Call due) {
        check.due(what + " with " + text, Check.outcome(call), Check.outcome(due));
    }
}
