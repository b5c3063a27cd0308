/**
 * A desk that tells names which look alike: the text that lies on it is brought to its skeleton,
 * its scripts, level, oddities and words are told, and a register keeps names to compare it with.
 */
public final class LookalikeDesk {
    public static final int NONE = -1;

    private static final int TEXT_LIMIT = 48;
    // A composed 127 becomes 12 and 107, and 12 gives way to two: no character becomes more than three.
    private static final int SKELETON_LIMIT = 3 * TEXT_LIMIT;
    private static final int APART_LIMIT = 2 * TEXT_LIMIT;
    private static final int NAME_LIMIT = 12;
    private static final int TYPE_LIMIT = 8;

    private static final int WORD_BEGIN = 0;
    private static final int WORD_LENGTH = 1;
    private static final int WORD_BEFORE = 2;
    private static final int WORD_NAME = 3;

    private final Writing text;
    private final Register names;
    private final WordList found;
    // These three are only ever filled and read within one call, so that no call makes rows of its own.
    private final Row apart;
    private final Writing oneWord;
    private final Writing otherWord;

    public LookalikeDesk() {
        text = new Writing();
        names = new Register();
        found = new WordList();
        apart = new Row(APART_LIMIT);
        oneWord = new Writing();
        otherWord = new Writing();
    }

    public int type(long characters, int n) throws IllegalArgumentException, IllegalStateException {
        if (n < 1 || n > TYPE_LIMIT || !areCharacters(characters, n)) {
            throw new IllegalArgumentException("not 1 to 8 characters of 0 to 127");
        }
        if (text.length() + n > TEXT_LIMIT) {
            throw new IllegalStateException("the text would be too long");
        }
        for (int i = n - 1; i >= 0; i--) {
            text.append(byteOf(characters, i));
        }
        text.bringToSkeleton(apart);
        return text.length();
    }

    public int wipe() {
        int had = text.length();
        text.clear();
        return had;
    }

    public int skeleton() {
        return text.bones().length();
    }

    public int skeletonAt(int i) {
        return text.bones().at(i);
    }

    public int scripts() {
        return Judge.commonSet(text.characters());
    }

    public int level() {
        return Judge.strictness(text.characters());
    }

    public int odd() {
        return Judge.oddities(text.characters(), apart);
    }

    public int words() {
        found.find(text.characters());
        return found.count();
    }

    public int word(int i, int what) throws IllegalArgumentException {
        found.find(text.characters());
        if (i < 0 || i >= found.count()) {
            throw new IllegalArgumentException("no such word");
        }
        switch (what) {
            case WORD_BEGIN:
                return found.begin(i);
            case WORD_LENGTH:
                return found.end(i) - found.begin(i);
            case WORD_BEFORE:
                return firstWordLike(i);
            case WORD_NAME:
                copyWord(i, oneWord);
                return names.firstLike(oneWord, 0);
            default:
                throw new IllegalArgumentException("what is not 0 to 3");
        }
    }

    public int register() throws IllegalArgumentException, IllegalStateException {
        if (!WordList.isIdentifier(text.characters())) {
            throw new IllegalArgumentException("the text is not an identifier");
        }
        if (names.isFull() || names.holds(text)) {
            throw new IllegalStateException("no place for the name, or it is one already");
        }
        names.keep(text);
        return names.count();
    }

    public int withdraw(int name) throws IndexOutOfBoundsException {
        if (!names.has(name)) {
            throw new IndexOutOfBoundsException("no such name");
        }
        names.drop(name);
        return names.count();
    }

    public int ranked(int i) throws IndexOutOfBoundsException {
        if (!names.has(i)) {
            throw new IndexOutOfBoundsException("no such place");
        }
        return names.atPlace(i);
    }

    public int nameAt(int name, int i) throws IndexOutOfBoundsException {
        if (!names.has(name)) {
            throw new IndexOutOfBoundsException("no such name");
        }
        return names.get(name).characters().at(i);
    }

    public int alike(int name) throws IndexOutOfBoundsException {
        if (!names.has(name)) {
            throw new IndexOutOfBoundsException("no such name");
        }
        return likeness(text, names.get(name));
    }

    public int lookalike(int from) {
        return names.firstLike(text, from);
    }

    private static boolean areCharacters(long characters, int n) {
        for (int i = 0; i < n; i++) {
            if (byteOf(characters, i) > Alphabet.LAST) {
                return false;
            }
        }
        return true;
    }

    private static int byteOf(long characters, int i) {
        return (int) (characters >>> (8 * i)) & 0xFF;
    }

    private static int likeness(Writing one, Writing other) {
        if (one.isSameAs(other)) {
            return 0;
        }
        if (!one.looksLike(other)) {
            return NONE;
        }
        int oneSet = Judge.commonSet(one.characters());
        int otherSet = Judge.commonSet(other.characters());
        if ((oneSet & otherSet) != 0) {
            return 1;
        }
        return oneSet == 0 || otherSet == 0 ? 2 : 3;
    }

    private int firstWordLike(int i) {
        copyWord(i, oneWord);
        for (int before = 0; before < i; before++) {
            copyWord(before, otherWord);
            if (oneWord.looksLike(otherWord)) {
                return before;
            }
        }
        return NONE;
    }

    private void copyWord(int i, Writing into) {
        into.clear();
        for (int place = found.begin(i); place < found.end(i); place++) {
            into.append(text.characters().at(place));
        }
        into.bringToSkeleton(apart);
    }

    /** What each single character is, as the document's terms have it. */
    private static final class Alphabet {
        static final int LAST = 127;

        static final int LATIN = 1;
        static final int CYRILLIC = 2;
        static final int GREEK = 4;
        static final int HAN = 8;
        static final int HIRAGANA = 16;
        static final int KATAKANA = 32;
        static final int HANGUL = 64;
        static final int BOPOMOFO = 128;
        static final int ARABIC = 256;
        static final int HAN_WITH_BOPOMOFO = 512;
        static final int JAPANESE = 1024;
        static final int KOREAN = 2048;
        static final int ALL_SCRIPTS = 4095;

        private static final int FIRST_MARK = 104;
        private static final int LAST_MARK = 111;
        private static final int FIRST_COMPOSED = 124;
        private static final int LINE = 112;
        private static final int DASH = 113;
        private static final int DOT = 114;

        static boolean isLetter(int c) {
            return c >= 0 && c <= 95 || isComposed(c);
        }

        static boolean isWesternDigit(int c) {
            return c >= 96 && c <= 99;
        }

        static boolean isEasternDigit(int c) {
            return c >= 100 && c <= 103;
        }

        static boolean isMark(int c) {
            return c >= FIRST_MARK && c <= LAST_MARK;
        }

        static boolean isInvisible(int c) {
            return c >= 120 && c <= 123;
        }

        static boolean isComposed(int c) {
            return c >= FIRST_COMPOSED && c <= LAST;
        }

        static boolean isDashOrDot(int c) {
            return c == DASH || c == DOT;
        }

        static boolean isPieceAlone(int c) {
            return isLetter(c) || isWesternDigit(c) || isEasternDigit(c) || isMark(c) || c == LINE;
        }

        static boolean isForbidden(int c) {
            return c >= 115 && c <= 123;
        }

        static boolean isPlain(int c) {
            return c >= 0 && c <= 15 || isWesternDigit(c) || c == LINE || isDashOrDot(c);
        }

        static int letterOf(int composed) {
            return 4 * (composed - FIRST_COMPOSED);
        }

        static int markOf(int composed) {
            return FIRST_MARK + composed - FIRST_COMPOSED;
        }

        /** The class of a mark; 0 for what is none, so that no mark is moved before it. */
        static int markClass(int c) {
            if (c < FIRST_MARK || c > LAST_MARK) {
                return 0;
            }
            if (c <= 107) {
                return 1;
            }
            return c <= 109 ? 2 : 3;
        }

        static int firstOfPrototype(int c) {
            int base = latinFor(c);
            switch (base) {
                case 12:
                    return 13;
                case 72:
                case 73:
                case 74:
                    return base - 72 + 48;
                case 55:
                    return 49;
                case 96:
                case 100:
                    return 14;
                case 97:
                case 101:
                    return 11;
                case 109:
                    return 105;
                case 118:
                    return 114;
                default:
                    return base;
            }
        }

        /** The second character of a prototype; NONE if the prototype is a single one. */
        static int secondOfPrototype(int c) {
            switch (latinFor(c)) {
                case 12:
                    return 15;
                case 55:
                    return 49;
                case 118:
                    return 114;
                default:
                    return NONE;
            }
        }

        /** The Latin letter whose prototype a Cyrillic or Greek letter shares; any other one itself. */
        private static int latinFor(int c) {
            if (c >= 16 && c <= 31 && (c - 16) % 2 == 0) {
                return c - 16;
            }
            if (c >= 32 && c <= 47 && (c - 32) % 3 == 0) {
                return c - 32;
            }
            return c;
        }

        static int setOf(int c) {
            if (isEasternDigit(c)) {
                return ARABIC;
            }
            return isLetter(c) ? setOfLetter(c) : ALL_SCRIPTS;
        }

        private static int setOfLetter(int letter) {
            if (letter <= 15 || isComposed(letter)) {
                return LATIN;
            }
            if (letter <= 31) {
                return CYRILLIC;
            }
            if (letter <= 47) {
                return GREEK;
            }
            if (letter <= 63) {
                return HAN | HAN_WITH_BOPOMOFO | JAPANESE | KOREAN;
            }
            if (letter <= 71) {
                return HIRAGANA | JAPANESE;
            }
            if (letter <= 79) {
                return KATAKANA | JAPANESE;
            }
            if (letter <= 87) {
                return HANGUL | KOREAN;
            }
            return BOPOMOFO | HAN_WITH_BOPOMOFO;
        }
    }

    /** A row of characters with a limit; its places are made once and used again. */
    private static final class Row {
        private final int[] places;
        private int length;

        Row(int limit) {
            places = new int[limit];
            length = 0;
        }

        int length() {
            return length;
        }

        int at(int i) {
            return i < 0 || i >= length ? NONE : places[i];
        }

        void clear() {
            length = 0;
        }

        void add(int c) {
            if (length < places.length) {
                places[length] = c;
                length++;
            }
        }

        /** Adds a character taken apart: a row that is only filled so is always in its order. */
        void addApart(int c) {
            if (Alphabet.isComposed(c)) {
                add(Alphabet.letterOf(c));
                addMark(Alphabet.markOf(c));
            } else if (Alphabet.isMark(c)) {
                addMark(c);
            } else {
                add(c);
            }
        }

        private void addMark(int mark) {
            if (length >= places.length) {
                return;
            }
            int place = length;
            // Only marks of a higher class are passed: those of the same one stay in their order.
            while (place > 0 && Alphabet.markClass(places[place - 1]) > Alphabet.markClass(mark)) {
                places[place] = places[place - 1];
                place--;
            }
            places[place] = mark;
            length++;
        }

        void copy(Row other) {
            clear();
            for (int i = 0; i < other.length; i++) {
                add(other.at(i));
            }
        }

        /** Below 0, 0 or above 0: this row is the less one, the same, or the greater one. */
        int order(Row other) {
            int shorter = Math.min(length, other.length);
            for (int i = 0; i < shorter; i++) {
                if (places[i] != other.places[i]) {
                    return Integer.compare(places[i], other.places[i]);
                }
            }
            return Integer.compare(length, other.length);
        }
    }

    /** A text and its skeleton. */
    private static final class Writing {
        private final Row characters;
        private final Row bones;

        Writing() {
            characters = new Row(TEXT_LIMIT);
            bones = new Row(SKELETON_LIMIT);
        }

        Row characters() {
            return characters;
        }

        Row bones() {
            return bones;
        }

        int length() {
            return characters.length();
        }

        void clear() {
            characters.clear();
            bones.clear();
        }

        /** Whoever appends brings the writing to its skeleton behind the last character. */
        void append(int c) {
            characters.add(c);
        }

        void bringToSkeleton(Row apart) {
            apart.clear();
            for (int i = 0; i < characters.length(); i++) {
                if (!Alphabet.isInvisible(characters.at(i))) {
                    apart.addApart(characters.at(i));
                }
            }
            // A mark's prototype may be of another class, so marks are put in order before it and behind it.
            bones.clear();
            for (int i = 0; i < apart.length(); i++) {
                bones.addApart(Alphabet.firstOfPrototype(apart.at(i)));
                int second = Alphabet.secondOfPrototype(apart.at(i));
                if (second != NONE) {
                    bones.addApart(second);
                }
            }
        }

        void copy(Writing other) {
            characters.copy(other.characters);
            bones.copy(other.bones);
        }

        boolean isSameAs(Writing other) {
            return characters.order(other.characters) == 0;
        }

        boolean looksLike(Writing other) {
            return !isSameAs(other) && bones.order(other.bones) == 0;
        }
    }

    /** What is told of a whole text. */
    private static final class Judge {
        static int commonSet(Row text) {
            int common = Alphabet.ALL_SCRIPTS;
            for (int i = 0; i < text.length(); i++) {
                common &= Alphabet.setOf(text.at(i));
            }
            return common;
        }

        static int strictness(Row text) {
            if (hasForbidden(text)) {
                return 6;
            }
            if (isPlain(text)) {
                return 1;
            }
            if (commonSet(text) != 0) {
                return 2;
            }
            if (isLatinWithMixedScript(text)) {
                return 3;
            }
            return isLatinWithOneScript(text) ? 4 : 5;
        }

        private static boolean hasForbidden(Row text) {
            for (int i = 0; i < text.length(); i++) {
                if (Alphabet.isForbidden(text.at(i))) {
                    return true;
                }
            }
            return false;
        }

        private static boolean isPlain(Row text) {
            for (int i = 0; i < text.length(); i++) {
                if (!Alphabet.isPlain(text.at(i))) {
                    return false;
                }
            }
            return true;
        }

        private static boolean isLatinWithMixedScript(Row text) {
            return eachIsLatinOr(text, Alphabet.HAN_WITH_BOPOMOFO)
                    || eachIsLatinOr(text, Alphabet.JAPANESE)
                    || eachIsLatinOr(text, Alphabet.KOREAN);
        }

        private static boolean isLatinWithOneScript(Row text) {
            return eachIsLatinOr(text, Alphabet.HAN)
                    || eachIsLatinOr(text, Alphabet.HIRAGANA)
                    || eachIsLatinOr(text, Alphabet.KATAKANA)
                    || eachIsLatinOr(text, Alphabet.HANGUL)
                    || eachIsLatinOr(text, Alphabet.BOPOMOFO)
                    || eachIsLatinOr(text, Alphabet.ARABIC);
        }

        private static boolean eachIsLatinOr(Row text, int script) {
            for (int i = 0; i < text.length(); i++) {
                if ((Alphabet.setOf(text.at(i)) & (Alphabet.LATIN | script)) == 0) {
                    return false;
                }
            }
            return true;
        }

        static int oddities(Row text, Row apart) {
            boolean west = false;
            boolean east = false;
            boolean invisible = false;
            apart.clear();
            for (int i = 0; i < text.length(); i++) {
                int c = text.at(i);
                west = west || Alphabet.isWesternDigit(c);
                east = east || Alphabet.isEasternDigit(c);
                invisible = invisible || Alphabet.isInvisible(c);
                apart.addApart(c);
            }
            return (west && east ? 1 : 0)
                    + (hasMarkTwice(apart) ? 2 : 0)
                    + (invisible ? 4 : 0)
                    + (hasLooseMark(apart) ? 8 : 0);
        }

        private static boolean hasMarkTwice(Row apart) {
            for (int i = 1; i < apart.length(); i++) {
                if (Alphabet.isMark(apart.at(i)) && apart.at(i) == apart.at(i - 1)) {
                    return true;
                }
            }
            return false;
        }

        private static boolean hasLooseMark(Row apart) {
            for (int i = 0; i < apart.length(); i++) {
                // Before the first character there is NONE, which is neither a letter nor a mark.
                int before = apart.at(i - 1);
                if (Alphabet.isMark(apart.at(i)) && !Alphabet.isLetter(before) && !Alphabet.isMark(before)) {
                    return true;
                }
            }
            return false;
        }
    }

    /** Where the words of a text begin and end. */
    private static final class WordList {
        // No two words touch, but a place for each character spares the count of the gaps.
        private final int[] begins;
        private final int[] ends;
        private int count;

        WordList() {
            begins = new int[TEXT_LIMIT];
            ends = new int[TEXT_LIMIT];
            count = 0;
        }

        int count() {
            return count;
        }

        int begin(int i) {
            return i < 0 || i >= count ? 0 : begins[i];
        }

        int end(int i) {
            return i < 0 || i >= count ? 0 : ends[i];
        }

        void find(Row text) {
            count = 0;
            int place = 0;
            while (place < text.length()) {
                int end = identifierEnd(text, place);
                if (end > place) {
                    note(place, end);
                }
                place = Math.max(end, place + 1);
            }
        }

        private void note(int begin, int end) {
            if (count < begins.length) {
                begins[count] = begin;
                ends[count] = end;
                count++;
            }
        }

        static boolean isIdentifier(Row text) {
            return text.length() > 0 && identifierEnd(text, 0) == text.length();
        }

        /** Where the longest identifier that begins at a place ends; that place itself if none does. */
        private static int identifierEnd(Row text, int begin) {
            if (!Alphabet.isLetter(text.at(begin))) {
                return begin;
            }
            int end = begin + 1;
            while (end < text.length() && pieceLength(text, end) > 0) {
                end += pieceLength(text, end);
            }
            return end;
        }

        private static int pieceLength(Row text, int place) {
            if (Alphabet.isPieceAlone(text.at(place))) {
                return 1;
            }
            return Alphabet.isDashOrDot(text.at(place)) && Alphabet.isPieceAlone(text.at(place + 1)) ? 2 : 0;
        }
    }

    /** The names, in the order of their numbers; the writings behind the last name wait for use. */
    private static final class Register {
        private final Writing[] names;
        private int count;

        Register() {
            names = new Writing[NAME_LIMIT];
            for (int i = 0; i < NAME_LIMIT; i++) {
                names[i] = new Writing();
            }
            count = 0;
        }

        int count() {
            return count;
        }

        boolean has(int name) {
            return name >= 0 && name < count;
        }

        boolean isFull() {
            return count >= NAME_LIMIT;
        }

        /** Only for a name that the register has. */
        Writing get(int name) {
            return names[name];
        }

        boolean holds(Writing text) {
            for (int name = 0; name < count; name++) {
                if (names[name].isSameAs(text)) {
                    return true;
                }
            }
            return false;
        }

        void keep(Writing text) {
            if (!isFull()) {
                names[count].copy(text);
                count++;
            }
        }

        void drop(int name) {
            if (!has(name)) {
                return;
            }
            Writing dropped = names[name];
            for (int i = name; i < count - 1; i++) {
                names[i] = names[i + 1];
            }
            count--;
            names[count] = dropped;
        }

        int atPlace(int place) {
            for (int name = 0; name < count; name++) {
                if (placeOf(name) == place) {
                    return name;
                }
            }
            return NONE;
        }

        private int placeOf(int name) {
            int place = 0;
            for (int other = 0; other < count; other++) {
                int order = names[other].bones().order(names[name].bones());
                if (order < 0 || order == 0 && other < name) {
                    place++;
                }
            }
            return place;
        }

        int firstLike(Writing text, int from) {
            for (int name = Math.max(from, 0); name < count; name++) {
                if (names[name].looksLike(text)) {
                    return name;
                }
            }
            return NONE;
        }
    }
}
