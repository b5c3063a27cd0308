import java.util.ArrayList;
import java.util.List;
import java.util.function.Supplier;
import java.util.function.ToIntFunction;

/** What throws leaves everything as it was; what may be thrown is tested in the order in which it is named. */
public final class RefusedCallsTest {
    private static final Class<IllegalArgumentException> ARGUMENT = IllegalArgumentException.class;
    private static final Class<IllegalStateException> STATE = IllegalStateException.class;
    private static final Class<IndexOutOfBoundsException> INDEX = IndexOutOfBoundsException.class;

    private final Check check;
    private final String state;
    private final Supplier<LookalikeDesk> maker;
    private final int names;

    private RefusedCallsTest(Check check, String state, Supplier<LookalikeDesk> maker, int names) {
        this.check = check;
        this.state = state;
        this.maker = maker;
        this.names = names;
    }

    public static void main(String[] args) {
        Check check = new Check();
        check.sentence("What throws leaves everything as it was");
        new RefusedCallsTest(check, "new", LookalikeDesk::new, 0).refusedInEveryState();
        new RefusedCallsTest(check, "some names", RefusedCallsTest::someNames, 4).refusedInEveryState();
        new RefusedCallsTest(check, "full register", Check::fullRegister, 12).refusedInEveryState();
        new RefusedCallsTest(check, "full text", RefusedCallsTest::fullText, 4).refusedInEveryState();
        refusedType(check);
        refusedRegister(check);
        check.sentence("what may be thrown is tested in the order in which it is named");
        orderOfType(check);
        orderOfRegister(check);
        check.end();
    }

    /** A text with words that look like one another and like names of which some look alike. */
    private static LookalikeDesk someNames() {
        LookalikeDesk desk = new LookalikeDesk();
        Check.registered(desk, 16);
        Check.registered(desk, 1, 113, 2);
        Check.registered(desk, 0);
        Check.registered(desk, 32);
        Check.put(desk, 0, 115, 16, 115, 12, 115, 13, 15, 120, 96, 103, 111, 104, 111);
        return desk;
    }

    private static LookalikeDesk fullText() {
        LookalikeDesk desk = someNames();
        Check.put(desk, Check.fullText(1, 115, 32, 115, 16));
        return desk;
    }

    private void refusedInEveryState() {
        for (int n : Check.row(Integer.MIN_VALUE, -1, 0, 9, 257, Integer.MAX_VALUE)) {
            refused("type(1, " + n + ")", ARGUMENT, desk -> desk.type(1L, n));
        }
        refused("type with a wrong first byte", ARGUMENT, desk -> desk.type(0x80000000L, 4));
        refused("type with a wrong last byte", ARGUMENT, desk -> desk.type(0x00000080L, 4));
        refused("type(-1, 8)", ARGUMENT, desk -> desk.type(-1L, 8));
        for (int i : Check.row(Integer.MIN_VALUE, -1, 24, Integer.MAX_VALUE)) {
            refused("word(" + i + ", 2)", ARGUMENT, desk -> desk.word(i, 2));
            refused("word(" + i + ", 3)", ARGUMENT, desk -> desk.word(i, 3));
        }
        for (int what : Check.row(Integer.MIN_VALUE, -1, 4, Integer.MAX_VALUE)) {
            refused("word(0, " + what + ")", ARGUMENT, desk -> desk.word(0, what));
        }
        for (int name : Check.row(Integer.MIN_VALUE, -1, names, 12, Integer.MAX_VALUE)) {
            refused("withdraw(" + name + ")", INDEX, desk -> desk.withdraw(name));
            refused("ranked(" + name + ")", INDEX, desk -> desk.ranked(name));
            refused("nameAt(" + name + ", 0)", INDEX, desk -> desk.nameAt(name, 0));
            refused("alike(" + name + ")", INDEX, desk -> desk.alike(name));
        }
    }

    private static void refusedType(Check check) {
        RefusedCallsTest full = new RefusedCallsTest(check, "full text", RefusedCallsTest::fullText, 4);
        full.refused("type(0, 1)", STATE, desk -> desk.type(0L, 1));
        full.refused("type(0, 8)", STATE, desk -> desk.type(0L, 8));
        Supplier<LookalikeDesk> room = () -> Check.desk(Check.repeated(3, 45));
        new RefusedCallsTest(check, "45 characters", room, 0)
                .refused("type of 4", STATE, desk -> desk.type(0x78000102L, 4));
    }

    private static void refusedRegister(Check check) {
        new RefusedCallsTest(check, "new", LookalikeDesk::new, 0)
                .refused("register", ARGUMENT, LookalikeDesk::register);
        new RefusedCallsTest(check, "some names", RefusedCallsTest::someNames, 4)
                .refused("register", ARGUMENT, LookalikeDesk::register);
        new RefusedCallsTest(check, "full register, a name", Check::fullRegister, 12)
                .refused("register", STATE, LookalikeDesk::register);
        new RefusedCallsTest(check, "full register, no name", () -> withText(Check.fullRegister(), 16, 11), 12)
                .refused("register", STATE, LookalikeDesk::register);
        new RefusedCallsTest(check, "a name already", () -> withText(someNames(), 1, 113, 2), 4)
                .refused("register", STATE, LookalikeDesk::register);
    }

    private static LookalikeDesk withText(LookalikeDesk desk, int... text) {
        Check.put(desk, text);
        return desk;
    }

    private void refused(String what, Class<? extends RuntimeException> want, ToIntFunction<LookalikeDesk> call) {
        LookalikeDesk desk = maker.get();
        String before = everything(desk);
        check.dueThrow(state + ": " + what, want, () -> call.applyAsInt(desk));
        check.due(state + ": everything behind " + what, everything(desk), before);
        // What no question tells of the state may still show in what the next changes do.
        check.due(state + ": what comes behind " + what, further(desk), further(maker.get()));
    }

    /** All that can be asked without a change. */
    private String everything(LookalikeDesk desk) {
        List<Object> told = new ArrayList<>(List.of(desk.scripts(), desk.level(), desk.odd()));
        for (int c : Check.skeletonOf(desk)) {
            told.add(c);
        }
        int words = desk.words();
        for (int i = 0; i < 4 * words; i++) {
            told.add(desk.word(i / 4, i % 4));
        }
        for (int name = 0; name < names; name++) {
            told.addAll(List.of("name", desk.nameAt(name, 0), desk.nameAt(name, 1), desk.nameAt(name, 2),
                    desk.ranked(name), desk.alike(name), desk.lookalike(name)));
        }
        told.add(Check.outcome(() -> desk.nameAt(names, 0)));
        return told.toString();
    }

    /** What the next changes answer. */
    private String further(LookalikeDesk desk) {
        List<Object> told = new ArrayList<>();
        told.add(Check.outcome(() -> desk.type(0x0104L, 2)));
        told.add(Check.outcome(desk::register));
        told.add(desk.skeleton());
        told.add(desk.wipe());
        told.add(Check.outcome(() -> desk.withdraw(0)));
        told.add(Check.outcome(() -> Check.registered(desk, 47, 1)));
        told.add(Check.outcome(() -> desk.nameAt(names, 0)));
        return told.toString();
    }

    private static void orderOfType(Check check) {
        for (int had : Check.row(48, 47, 41)) {
            LookalikeDesk desk = Check.desk(Check.repeated(3, had));
            for (int n : Check.row(Integer.MIN_VALUE, -1, 0, 9, 49, Integer.MAX_VALUE)) {
                check.dueThrow("n = " + n + " behind " + had, ARGUMENT, () -> desk.type(0L, n));
            }
            check.dueThrow("a wrong first byte behind " + had, ARGUMENT, () -> desk.type(0x8000000000000000L, 8));
            check.dueThrow("a wrong last byte behind " + had, ARGUMENT, () -> desk.type(0x80L, 8));
            check.dueThrow("only too long behind " + had, STATE, () -> desk.type(0L, 8));
        }
    }

    private static void orderOfRegister(Check check) {
        LookalikeDesk desk = Check.fullRegister();
        for (int[] text : new int[][] {{}, {96}, {0, 11, 115}, {0, 11, 113}, {120, 0, 11}}) {
            Check.put(desk, text);
            check.dueThrow("no identifier, and full", ARGUMENT, desk::register);
        }
        Check.put(desk, 0, 11);
        check.dueThrow("an identifier, but full", STATE, desk::register);
    }
}
