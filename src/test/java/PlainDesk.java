import java.util.ArrayList;
import java.util.Comparator;
import java.util.List;
import java.util.Map;
import java.util.regex.Matcher;
import java.util.regex.Pattern;

/** The document's words once more, written apart from the program and without a thought of cost. */
final class PlainDesk {
    private static final Pattern IDENTIFIER = Pattern.compile("L([LDM_]|[-.][LDM_])*");
    private static final Map<Integer, List<Integer>> PROTOTYPES = Map.ofEntries(
            Map.entry(12, List.of(13, 15)), Map.entry(55, List.of(49, 49)), Map.entry(118, List.of(114, 114)),
            Map.entry(72, List.of(48)), Map.entry(73, List.of(49)), Map.entry(74, List.of(50)),
            Map.entry(96, List.of(14)), Map.entry(100, List.of(14)),
            Map.entry(97, List.of(11)), Map.entry(101, List.of(11)), Map.entry(109, List.of(105)));
    private static final Map<Character, Integer> SETS = Map.of(
            'l', 1, 'c', 2, 'g', 4, 'h', 8 + 512 + 1024 + 2048, 'i', 16 + 1024, 'k', 32 + 1024,
            'n', 64 + 2048, 'b', 128 + 512, 'a', 256, '*', 4095);
    private static final String SCRIPTS = "l".repeat(16) + "c".repeat(16) + "g".repeat(16) + "h".repeat(16)
            + "i".repeat(8) + "k".repeat(8) + "n".repeat(8) + "b".repeat(8)
            + "*".repeat(4) + "a".repeat(4) + "*".repeat(20) + "l".repeat(4);
    private static final String KINDS = "L".repeat(96) + "D".repeat(8) + "M".repeat(8) + "_-." + " ".repeat(5)
            + "v".repeat(4) + "L".repeat(4);

    private List<Integer> text = new ArrayList<>();
    private final List<List<Integer>> names = new ArrayList<>();

    List<List<Integer>> names() {
        return names;
    }

    int type(long characters, int n) {
        if (n < 1 || n > 8) {
            throw new IllegalArgumentException();
        }
        List<Integer> typed = new ArrayList<>(text);
        for (int i = n - 1; i >= 0; i--) {
            typed.add((int) (characters >> (8 * i) & 255));
        }
        if (typed.stream().anyMatch(c -> c > 127)) {
            throw new IllegalArgumentException();
        }
        if (typed.size() > 48) {
            throw new IllegalStateException();
        }
        text = typed;
        return text.size();
    }

    int wipe() {
        int had = text.size();
        text = new ArrayList<>();
        return had;
    }

    int skeleton() {
        return skeletonOf(text).size();
    }

    int skeletonAt(int i) {
        return at(skeletonOf(text), i);
    }

    int scripts() {
        return setOf(text);
    }

    int level() {
        if (text.stream().anyMatch(c -> " v".indexOf(KINDS.charAt(c)) >= 0)) {
            return 6;
        }
        if (text.stream().allMatch(c -> c < 16 || c > 95 && c < 100 || c > 111 && c < 115)) {
            return 1;
        }
        if (setOf(text) != 0) {
            return 2;
        }
        if (List.of(512, 1024, 2048).stream().anyMatch(this::isLatinOr)) {
            return 3;
        }
        return List.of(8, 16, 32, 64, 128, 256).stream().anyMatch(this::isLatinOr) ? 4 : 5;
    }

    int odd() {
        String kinds = kindsOf(text);
        List<Integer> apart = apart(text);
        String apartKinds = kindsOf(apart);
        int odd = text.stream().anyMatch(c -> c > 95 && c < 100) && text.stream().anyMatch(c -> c > 99 && c < 104)
                ? 1 : 0;
        for (int i = 1; i < apart.size(); i++) {
            if (apartKinds.charAt(i) == 'M' && apart.get(i).equals(apart.get(i - 1))) {
                odd |= 2;
            }
        }
        odd |= kinds.contains("v") ? 4 : 0;
        return odd | (Pattern.compile("(^|[^LM])M").matcher(apartKinds).find() ? 8 : 0);
    }

    int words() {
        return wordsOf().size();
    }

    int word(int i, int what) {
        List<int[]> words = wordsOf();
        if (i < 0 || i >= words.size() || what < 0 || what > 3) {
            throw new IllegalArgumentException();
        }
        if (what < 2) {
            return words.get(i)[what];
        }
        List<List<Integer>> others = what == 3 ? names : words.subList(0, i).stream().map(this::cut).toList();
        return firstLike(others, cut(words.get(i)), 0);
    }

    int register() {
        if (!IDENTIFIER.matcher(kindsOf(text)).matches()) {
            throw new IllegalArgumentException();
        }
        if (names.size() == 12 || names.contains(text)) {
            throw new IllegalStateException();
        }
        names.add(text);
        return names.size();
    }

    int withdraw(int name) {
        names.remove(name);
        return names.size();
    }

    int ranked(int i) {
        List<Integer> order = new ArrayList<>();
        for (int name = 0; name < names.size(); name++) {
            order.add(name);
        }
        order.sort(Comparator.comparing(name -> spelt(skeletonOf(names.get(name)))));
        return order.get(i);
    }

    int nameAt(int name, int i) {
        return at(names.get(name), i);
    }

    int alike(int name) {
        List<Integer> other = names.get(name);
        if (text.equals(other)) {
            return 0;
        }
        if (!lookAlike(text, other)) {
            return -1;
        }
        if ((setOf(text) & setOf(other)) != 0) {
            return 1;
        }
        return setOf(text) == 0 || setOf(other) == 0 ? 2 : 3;
    }

    int lookalike(int from) {
        return firstLike(names, text, from);
    }

    private static int at(List<Integer> row, int i) {
        return i < 0 || i >= row.size() ? -1 : row.get(i);
    }

    private static int firstLike(List<List<Integer>> others, List<Integer> one, int from) {
        for (int i = Math.max(0, from); i < others.size(); i++) {
            if (lookAlike(others.get(i), one)) {
                return i;
            }
        }
        return -1;
    }

    private static boolean lookAlike(List<Integer> one, List<Integer> other) {
        return !one.equals(other) && skeletonOf(one).equals(skeletonOf(other));
    }

    private static List<Integer> skeletonOf(List<Integer> text) {
        List<Integer> seen = new ArrayList<>(text);
        seen.removeIf(c -> KINDS.charAt(c) == 'v');
        List<Integer> replaced = new ArrayList<>();
        apart(seen).forEach(c -> replaced.addAll(prototype(c)));
        return apart(replaced);
    }

    private static List<Integer> prototype(int c) {
        if (c >= 16 && c < 32 && c % 2 == 0) {
            return prototype(c - 16);
        }
        if (c >= 32 && c < 48 && (c - 32) % 3 == 0) {
            return prototype(c - 32);
        }
        return PROTOTYPES.getOrDefault(c, List.of(c));
    }

    private static List<Integer> apart(List<Integer> text) {
        List<Integer> apart = new ArrayList<>();
        for (int c : text) {
            apart.addAll(c < 124 ? List.of(c) : List.of(4 * (c - 124), 104 + c - 124));
        }
        Matcher run = Pattern.compile("M+").matcher(kindsOf(apart));
        while (run.find()) {
            apart.subList(run.start(), run.end()).sort(Comparator.comparing(mark -> "11112233".charAt(mark - 104)));
        }
        return apart;
    }

    private static String kindsOf(List<Integer> text) {
        StringBuilder kinds = new StringBuilder();
        text.forEach(c -> kinds.append(KINDS.charAt(c)));
        return kinds.toString();
    }

    private static String spelt(List<Integer> row) {
        StringBuilder spelt = new StringBuilder();
        row.forEach(c -> spelt.append((char) (int) c));
        return spelt.toString();
    }

    private static int setOf(List<Integer> text) {
        return text.stream().map(c -> SETS.get(SCRIPTS.charAt(c))).reduce(4095, (one, other) -> one & other);
    }

    private boolean isLatinOr(int script) {
        return text.stream().allMatch(c -> (SETS.get(SCRIPTS.charAt(c)) & (1 | script)) != 0);
    }

    /** Begin, length and end of each word. */
    private List<int[]> wordsOf() {
        List<int[]> words = new ArrayList<>();
        Matcher found = IDENTIFIER.matcher(kindsOf(text));
        while (found.find()) {
            words.add(new int[] {found.start(), found.end() - found.start(), found.end()});
        }
        return words;
    }

    private List<Integer> cut(int[] word) {
        return text.subList(word[0], word[2]);
    }
}
