import java.util.ArrayList;
import java.util.Arrays;

/** A registry of published versions, and a solver that chooses among them for a root. */
public final class VersionSolver {
    public static final int NONE = -1;

    private static final int PACKS = 8;
    private static final int MOST_VERSIONS = 40;
    private static final int MOST_TEXT_BYTES = 160;
    private static final int MOST_VERSION_BYTES = 24;
    private static final int MOST_NEEDS = 5;
    private static final int MOST_COMPARATORS = 4;
    /** A digit, a blank and a line's end stand round each version. */
    private static final int MOST_FILE_BYTES = PACKS * (MOST_VERSION_BYTES + 3);
    private static final int[] NO_WORDS = {};

    private final Text text;
    private final Grammar grammar;
    private final Registry registry;
    private final Search search;
    private final Requirement[] root;
    private final int[] pinned;
    private final int[] choice;
    private final byte[] file;
    private int fileLength;

    public VersionSolver() {
        text = new Text();
        grammar = new Grammar(text);
        registry = new Registry();
        pinned = new int[PACKS];
        search = new Search(registry, pinned);
        root = new Requirement[PACKS];
        choice = new int[PACKS];
        file = new byte[MOST_FILE_BYTES];
        Arrays.fill(pinned, NONE);
        Arrays.fill(choice, NONE);
    }

    public int feed(long bytes, int n) throws IllegalArgumentException, IllegalStateException {
        if (n < 1 || n > 8) {
            throw new IllegalArgumentException("n is not 1 to 8");
        }
        if (text.length + n > MOST_TEXT_BYTES) {
            throw new IllegalStateException("the text would be too long");
        }
        text.append(bytes, n);
        return text.length;
    }

    public int publish(int pack) throws IndexOutOfBoundsException, IllegalArgumentException,
            IllegalStateException, UnsupportedOperationException {
        text.startReading();
        refuseUnknownPack(pack);
        Published fresh = grammar.publication(pack);
        if (fresh == null) {
            throw new IllegalArgumentException("the text is no publication");
        }
        if (registry.holdsEqual(pack, fresh.version)) {
            throw new IllegalStateException("the package has a version of this precedence");
        }
        if (registry.count() >= MOST_VERSIONS) {
            throw new UnsupportedOperationException("there is no room for another version");
        }
        registry.add(fresh);
        search.addNewest();
        return registry.count() - 1;
    }

    public boolean yank(int version, boolean on) throws IndexOutOfBoundsException {
        refuseUnknownVersion(version);
        boolean was = isIn(registry.yanked, version);
        registry.yanked = on ? registry.yanked | bit(version) : registry.yanked & ~bit(version);
        return was;
    }

    public void want(int pack) throws IndexOutOfBoundsException, IllegalArgumentException {
        text.startReading();
        refuseUnknownPack(pack);
        root[pack] = readRequirement();
    }

    public boolean drop(int pack) throws IndexOutOfBoundsException {
        refuseUnknownPack(pack);
        boolean was = root[pack] != null;
        root[pack] = null;
        return was;
    }

    public int solve() throws IllegalStateException {
        long found = search.firstSolution(openAtFirst(), rootPacks());
        if (found == 0) {
            throw new IllegalStateException("there is no solution");
        }
        for (int pack = 0; pack < PACKS; pack++) {
            choice[pack] = registry.highest(found & registry.ofPack[pack]);
        }
        return given(choice);
    }

    public int chosen(int pack) throws IndexOutOfBoundsException {
        refuseUnknownPack(pack);
        return choice[pack];
    }

    public int lock() {
        System.arraycopy(choice, 0, pinned, 0, PACKS);
        return given(pinned);
    }

    public int pin(int version) throws IndexOutOfBoundsException {
        refuseUnknownVersion(version);
        int pack = registry.at(version).pack;
        int before = pinned[pack];
        pinned[pack] = version;
        return before;
    }

    public int unlock() {
        int count = given(pinned);
        Arrays.fill(pinned, NONE);
        return count;
    }

    public boolean meets(int version) throws IndexOutOfBoundsException, IllegalArgumentException {
        text.startReading();
        refuseUnknownVersion(version);
        return readRequirement().allows(registry.at(version).version);
    }

    public int best(int pack) throws IndexOutOfBoundsException, IllegalArgumentException {
        text.startReading();
        refuseUnknownPack(pack);
        return registry.highest(registry.allowed(pack, readRequirement()) & ~registry.yanked);
    }

    public int compare(int version, int other) throws IndexOutOfBoundsException {
        refuseUnknownVersion(version);
        refuseUnknownVersion(other);
        return registry.at(version).version.against(registry.at(other).version);
    }

    public int needs(int version, int k) throws IndexOutOfBoundsException {
        refuseUnknownVersion(version);
        return registry.at(version).needAt(k);
    }

    public int told(int what) {
        switch (what) {
            case 0:
                return registry.count();
            case 1:
                return Long.bitCount(registry.yanked);
            case 2:
                return Integer.bitCount(rootPacks());
            case 3:
                return given(pinned);
            case 4:
                return text.length;
            default:
                return NONE;
        }
    }

    public int write() {
        fileLength = 0;
        for (int pack = 0; pack < PACKS; pack++) {
            if (registry.knows(choice[pack])) {
                appendLine(pack, registry.at(choice[pack]).written);
            }
        }
        return fileLength;
    }

    public int fileByte(int i) throws IndexOutOfBoundsException {
        if (i < 0 || i >= fileLength) {
            throw new IndexOutOfBoundsException("the file has no such byte");
        }
        return file[i];
    }

    private void appendLine(int pack, byte[] written) {
        if (fileLength + written.length + 3 > MOST_FILE_BYTES) {
            return;
        }
        file[fileLength] = (byte) ('0' + pack);
        file[fileLength + 1] = ' ';
        System.arraycopy(written, 0, file, fileLength + 2, written.length);
        file[fileLength + 2 + written.length] = '\n';
        fileLength += written.length + 3;
    }

    private static void refuseUnknownPack(int pack) {
        if (pack < 0 || pack >= PACKS) {
            throw new IndexOutOfBoundsException("there is no such package");
        }
    }

    private void refuseUnknownVersion(int version) {
        if (!registry.knows(version)) {
            throw new IndexOutOfBoundsException("there is no such version");
        }
    }

    private Requirement readRequirement() {
        Requirement requirement = grammar.requirement();
        if (requirement == null || !text.isRead()) {
            throw new IllegalArgumentException("the text is no requirement");
        }
        return requirement;
    }

    /** The options that neither a yank nor the root rules out. */
    private long openAtFirst() {
        long open = ~registry.yanked;
        for (int pack = 0; pack < PACKS; pack++) {
            if (pinned[pack] != NONE) {
                open |= bit(pinned[pack]);
            }
            if (root[pack] != null) {
                open &= ~search.optionsOf(pack) | registry.allowed(pack, root[pack]);
            }
        }
        return open;
    }

    private int rootPacks() {
        int packs = 0;
        for (int pack = 0; pack < PACKS; pack++) {
            if (root[pack] != null) {
                packs |= 1 << pack;
            }
        }
        return packs;
    }

    private static int given(int[] versions) {
        int count = 0;
        for (int version : versions) {
            if (version != NONE) {
                count++;
            }
        }
        return count;
    }

    private static long bit(int place) {
        return 1L << place;
    }

    private static boolean isIn(long set, int place) {
        return (set & 1L << place) != 0;
    }

    private static boolean isDigit(int c) {
        return c >= '0' && c <= '9';
    }

    private static boolean isLetterOrMinus(int c) {
        return c >= 'a' && c <= 'z' || c >= 'A' && c <= 'Z' || c == '-';
    }

    /** What is fed, and the place up to which a call has read it. */
    private static final class Text {
        private static final int MOST_DIGITS = 9;

        final byte[] bytes = new byte[MOST_TEXT_BYTES];
        int length;
        int end;
        int at;

        void append(long eight, int n) {
            for (int i = 0; i < n && length < MOST_TEXT_BYTES; i++) {
                bytes[length] = (byte) (eight >> 8 * i);
                length++;
            }
        }

        /** Uses the text up at once, so that a call that throws has used it up, too. */
        void startReading() {
            end = length;
            at = 0;
            length = 0;
        }

        boolean isRead() {
            return at >= end;
        }

        /** The byte that is to be read next, or NONE. */
        int next() {
            return at < end ? bytes[at] & 255 : NONE;
        }

        boolean skip(char c) {
            if (at >= end || bytes[at] != c) {
                return false;
            }
            at++;
            return true;
        }

        void skipBlanks() {
            while (at < end && bytes[at] == ' ') {
                at++;
            }
        }

        byte[] readSince(int from) {
            return Arrays.copyOfRange(bytes, from, at);
        }

        /** Reads a NUMBER; NONE when none stands here. */
        int number() {
            int from = at;
            int value = 0;
            while (at < end && isDigit(bytes[at])) {
                value = 10 * value + (bytes[at] - '0');
                at++;
            }
            return isNumber(from) ? value : NONE;
        }

        /** Whether the digits read since a place are a NUMBER. */
        private boolean isNumber(int from) {
            int digits = at - from;
            return digits == 1 || digits > 1 && digits <= MOST_DIGITS && bytes[from] != '0';
        }

        /** Reads words with points between; whether they stand here. */
        boolean words(boolean digitsAreNumbers) {
            do {
                int from = at;
                boolean digitsAlone = true;
                while (at < end && (isDigit(bytes[at]) || isLetterOrMinus(bytes[at]))) {
                    digitsAlone = digitsAlone && isDigit(bytes[at]);
                    at++;
                }
                if (at == from || digitsAlone && digitsAreNumbers && !isNumber(from)) {
                    return false;
                }
            } while (at < end && skip('.'));
            return true;
        }
    }

    /** Makes of the text what it says; null always means that it does not say such a thing. */
    private static final class Grammar {
        final Text text;

        Grammar(Text text) {
            this.text = text;
        }

        Published publication(int pack) {
            Version version = fullVersion();
            if (version == null) {
                return null;
            }
            Published fresh = new Published(pack, version, text.readSince(0));
            for (int k = 0; k < MOST_NEEDS && text.skip(';'); k++) {
                int on = neededPack();
                if (on == NONE || fresh.needOn(on) != null) {
                    return null;
                }
                Requirement requirement = requirement();
                if (requirement == null) {
                    return null;
                }
                fresh.addNeed(on, requirement);
            }
            return text.isRead() ? fresh : null;
        }

        /** Reads the digit of a package and a blank; NONE when they do not stand here. */
        private int neededPack() {
            int pack = text.next() - '0';
            if (pack < 0 || pack >= PACKS) {
                return NONE;
            }
            text.at++;
            return text.skip(' ') ? pack : NONE;
        }

        Requirement requirement() {
            Requirement requirement = new Requirement();
            for (int k = 0; k < MOST_COMPARATORS; k++) {
                text.skipBlanks();
                Range range = comparator();
                if (range == null) {
                    return null;
                }
                requirement.add(range);
                text.skipBlanks();
                if (!text.skip(',')) {
                    return requirement;
                }
            }
            return null;
        }

        private Range comparator() {
            if (text.skip('*')) {
                return Range.ofAll();
            }
            int sign = sign();
            int from = text.at;
            int first = text.number();
            if (first == NONE) {
                return null;
            }
            if (!text.skip('.')) {
                return Range.of(sign, 1, new Version(first, 0, 0, NO_WORDS));
            }
            if (sign == Range.UNSIGNED && text.skip('*')) {
                return Range.of(Range.TILDE, 1, new Version(first, 0, 0, NO_WORDS));
            }
            int second = text.number();
            if (second == NONE) {
                return null;
            }
            if (!text.skip('.')) {
                return Range.of(sign, 2, new Version(first, second, 0, NO_WORDS));
            }
            if (sign == Range.UNSIGNED && text.skip('*')) {
                return Range.of(Range.TILDE, 2, new Version(first, second, 0, NO_WORDS));
            }
            Version version = endOfVersion(from, first, second);
            return version == null ? null : Range.of(sign, 3, version);
        }

        private int sign() {
            if (text.skip('^')) {
                return Range.CARET;
            }
            if (text.skip('~')) {
                return Range.TILDE;
            }
            if (text.skip('=')) {
                return Range.EQUAL;
            }
            if (text.skip('>')) {
                return text.skip('=') ? Range.FROM : Range.ABOVE;
            }
            if (text.skip('<')) {
                return text.skip('=') ? Range.UP_TO : Range.BELOW;
            }
            return Range.UNSIGNED;
        }

        /** Reads a VERSION from the text's beginning on. */
        private Version fullVersion() {
            int first = text.number();
            if (first == NONE || !text.skip('.')) {
                return null;
            }
            int second = text.number();
            if (second == NONE || !text.skip('.')) {
                return null;
            }
            Version version = endOfVersion(0, first, second);
            if (version == null || text.skip('+') && !text.words(false)) {
                return null;
            }
            return text.at <= MOST_VERSION_BYTES ? version : null;
        }

        /** Reads the third number and the words behind - of a version that began at a place. */
        private Version endOfVersion(int from, int first, int second) {
            int third = text.number();
            if (third == NONE) {
                return null;
            }
            boolean hasWords = text.skip('-');
            int fromWords = text.at;
            if (hasWords && !text.words(true) || text.at - from > MOST_VERSION_BYTES) {
                return null;
            }
            return new Version(first, second, third,
                    hasWords ? Version.ranked(text.readSince(fromWords)) : NO_WORDS);
        }
    }

    /** What counts for the precedence of a version. */
    private static final class Version {
        private static final int END_OF_WORD = 0;
        private static final int NUMBER = 1;
        private static final int OTHER_WORD = 2;

        final int first;
        final int second;
        final int third;
        /** The words behind -, ranked; none when empty. */
        final int[] words;

        Version(int first, int second, int third, int[] words) {
            this.first = first;
            this.second = second;
            this.third = third;
            this.words = words;
        }

        boolean hasWords() {
            return words.length > 0;
        }

        boolean hasNumbersOf(Version other) {
            return first == other.first && second == other.second && third == other.third;
        }

        /** The lowest one, without words, above all that share so many of the first numbers. */
        Version after(int numbers) {
            if (numbers == 1) {
                return new Version(first + 1, 0, 0, NO_WORDS);
            }
            if (numbers == 2) {
                return new Version(first, second + 1, 0, NO_WORDS);
            }
            return new Version(first, second, third + 1, NO_WORDS);
        }

        /** The precedence: -1 when this one is below the other, 0, or 1. */
        int against(Version other) {
            if (first != other.first) {
                return Integer.compare(first, other.first);
            }
            if (second != other.second) {
                return Integer.compare(second, other.second);
            }
            if (third != other.third) {
                return Integer.compare(third, other.third);
            }
            if (hasWords() != other.hasWords()) {
                return hasWords() ? -1 : 1;
            }
            for (int i = 0; i < words.length && i < other.words.length; i++) {
                if (words[i] != other.words[i]) {
                    return Integer.compare(words[i], other.words[i]);
                }
            }
            return Integer.compare(words.length, other.words.length);
        }

        /** Makes of words a row: where two rows first differ, or where one ends, tells their precedence. */
        static int[] ranked(byte[] words) {
            // A word of one byte takes the most for its length: its kind, itself and its end.
            int[] row = new int[3 * words.length];
            int length = 0;
            int from = 0;
            while (from < words.length) {
                int end = endOfWord(words, from);
                int number = numberOf(words, from, end);
                row[length] = number == NONE ? OTHER_WORD : NUMBER;
                length++;
                for (int i = from; i < end && number == NONE; i++) {
                    row[length] = words[i];
                    length++;
                }
                row[length] = number == NONE ? END_OF_WORD : number;
                length++;
                from = end + 1;
            }
            return Arrays.copyOf(row, length);
        }

        private static int endOfWord(byte[] words, int from) {
            int end = from;
            while (end < words.length && words[end] != '.') {
                end++;
            }
            return end;
        }

        /** The number that a word of digits alone is, or NONE. */
        private static int numberOf(byte[] words, int from, int end) {
            int value = 0;
            for (int i = from; i < end; i++) {
                if (!isDigit(words[i])) {
                    return NONE;
                }
                value = 10 * value + (words[i] - '0');
            }
            return value;
        }
    }

    /** A comparator, as the bounds between which it is met; a bound that is null does not bind. */
    private static final class Range {
        static final int UNSIGNED = 0;
        static final int CARET = 1;
        static final int TILDE = 2;
        static final int EQUAL = 3;
        static final int ABOVE = 4;
        static final int FROM = 5;
        static final int BELOW = 6;
        static final int UP_TO = 7;

        final Version low;
        final boolean lowItself;
        final Version high;
        final boolean highItself;

        Range(Version low, boolean lowItself, Version high, boolean highItself) {
            this.low = low;
            this.lowItself = lowItself;
            this.high = high;
            this.highItself = highItself;
        }

        static Range ofAll() {
            return new Range(null, false, null, false);
        }

        /** The range of a sign before a version of which so many numbers are written. */
        static Range of(int sign, int numbers, Version version) {
            boolean whole = numbers == 3;
            switch (sign) {
                case TILDE:
                    return new Range(version, true, version.after(Math.min(numbers, 2)), false);
                case EQUAL:
                    return new Range(version, true, whole ? version : version.after(numbers), whole);
                case ABOVE:
                    return new Range(whole ? version : version.after(numbers), !whole, null, false);
                case FROM:
                    return new Range(version, true, null, false);
                case BELOW:
                    return new Range(null, false, version, false);
                case UP_TO:
                    return new Range(null, false, whole ? version : version.after(numbers), whole);
                default:
                    return new Range(version, true, version.after(heldByCaret(numbers, version)), false);
            }
        }

        /** How many of the first numbers ^ does not let change. */
        private static int heldByCaret(int numbers, Version version) {
            if (numbers == 1 || version.first != 0) {
                return 1;
            }
            return numbers == 2 || version.second != 0 ? 2 : 3;
        }

        boolean includes(Version version) {
            int toLow = low == null ? 1 : version.against(low);
            int toHigh = high == null ? -1 : version.against(high);
            return (toLow > 0 || toLow == 0 && lowItself) && (toHigh < 0 || toHigh == 0 && highItself);
        }

        /** Whether these three numbers were written here with words; such a version is a bound. */
        boolean namesWithWords(Version version) {
            return low != null && low.hasWords() && low.hasNumbersOf(version)
                    || high != null && high.hasWords() && high.hasNumbersOf(version);
        }
    }

    /** A REQUIREMENT. */
    private static final class Requirement {
        final ArrayList<Range> ranges = new ArrayList<Range>();

        void add(Range range) {
            ranges.add(range);
        }

        boolean allows(Version version) {
            boolean named = !version.hasWords();
            for (int i = 0; i < ranges.size(); i++) {
                Range range = ranges.get(i);
                if (!range.includes(version)) {
                    return false;
                }
                named = named || range.namesWithWords(version);
            }
            return named;
        }
    }

    /** A version of a package with what it requires. */
    private static final class Published {
        final int pack;
        final Version version;
        final byte[] written;
        final int[] needed = new int[MOST_NEEDS];
        final ArrayList<Requirement> requirements = new ArrayList<Requirement>();

        Published(int pack, Version version, byte[] written) {
            this.pack = pack;
            this.version = version;
            this.written = written;
        }

        void addNeed(int on, Requirement requirement) {
            int k = requirements.size();
            if (k < MOST_NEEDS) {
                needed[k] = on;
                requirements.add(requirement);
            }
        }

        int needAt(int k) {
            return k >= 0 && k < requirements.size() ? needed[k] : NONE;
        }

        /** The requirement on a package, or null. */
        Requirement needOn(int on) {
            for (int k = 0; k < requirements.size(); k++) {
                if (needed[k] == on) {
                    return requirements.get(k);
                }
            }
            return null;
        }

        /** Whether what this one requires leaves room for another one. */
        boolean bears(Published other) {
            Requirement requirement = needOn(other.pack);
            return requirement == null || requirement.allows(other.version);
        }
    }

    /** All that was published. Sets of versions are bits of a long. */
    private static final class Registry {
        final ArrayList<Published> all = new ArrayList<Published>();
        final long[] ofPack = new long[PACKS];
        long yanked;

        int count() {
            return all.size();
        }

        boolean knows(int version) {
            return version >= 0 && version < all.size();
        }

        /** Only for a version that it knows. */
        Published at(int version) {
            return all.get(version);
        }

        void add(Published fresh) {
            ofPack[fresh.pack] |= bit(all.size());
            all.add(fresh);
        }

        boolean holdsEqual(int pack, Version version) {
            for (int v = 0; v < all.size(); v++) {
                Published other = all.get(v);
                if (other.pack == pack && other.version.against(version) == 0) {
                    return true;
                }
            }
            return false;
        }

        /** The versions of a package that a requirement allows. */
        long allowed(int pack, Requirement requirement) {
            long set = 0;
            for (int v = 0; v < all.size(); v++) {
                Published other = all.get(v);
                if (other.pack == pack && requirement.allows(other.version)) {
                    set |= bit(v);
                }
            }
            return set;
        }

        /** The one of highest precedence in a set, or NONE. */
        int highest(long set) {
            int top = NONE;
            for (int v = 0; v < all.size(); v++) {
                if (isIn(set, v)
                        && (top == NONE || all.get(v).version.against(all.get(top).version) > 0)) {
                    top = v;
                }
            }
            return top;
        }
    }

    /**
     * Finds the first solution. Each package takes one of its OPTIONS: a version, whose bit is its
     * number, or none at all, whose bit lies behind those of the versions. A set of options is a long.
     */
    private static final class Search {
        private static final int OPTIONS = MOST_VERSIONS + PACKS;

        final Registry registry;
        final int[] pinned;
        final int[] packOf = new int[OPTIONS];
        /** For each option those that no solution has together with it; itself, if no solution has it. */
        final long[] clash = new long[OPTIONS];
        /** For each version the packages that it requires, as bits. */
        final int[] needed = new int[MOST_VERSIONS];
        final long[] support = new long[PACKS];
        int rootPacks;

        Search(Registry registry, int[] pinned) {
            this.registry = registry;
            this.pinned = pinned;
            for (int pack = 0; pack < PACKS; pack++) {
                packOf[MOST_VERSIONS + pack] = pack;
            }
        }

        private static int noneOf(int pack) {
            return MOST_VERSIONS + pack;
        }

        long optionsOf(int pack) {
            return registry.ofPack[pack] | bit(noneOf(pack));
        }

        void addNewest() {
            int newest = registry.count() - 1;
            if (!registry.knows(newest) || newest >= MOST_VERSIONS) {
                return;
            }
            Published fresh = registry.at(newest);
            packOf[newest] = fresh.pack;
            addClash(newest, noneOf(fresh.pack));
            for (int k = 0; k < MOST_NEEDS && fresh.needAt(k) != NONE; k++) {
                needed[newest] |= 1 << fresh.needAt(k);
                addClash(newest, noneOf(fresh.needAt(k)));
            }
            for (int v = 0; v <= newest; v++) {
                Published other = registry.at(v);
                boolean rivals = v != newest && other.pack == fresh.pack;
                if (rivals || !fresh.bears(other) || !other.bears(fresh)) {
                    addClash(newest, v);
                }
            }
        }

        private void addClash(int option, int other) {
            clash[option] |= bit(other);
            clash[other] |= bit(option);
        }

        /**
         * The options of the first solution among the open ones; 0 when there is none. It settles the
         * packages in their order, and always holds a solution that proves that what it settled can be.
         */
        long firstSolution(long open, int fromRoot) {
            rootPacks = fromRoot;
            long settled = narrowed(open & allOptions());
            long proof = anySolution(0, settled);
            for (int pack = 0; pack < PACKS && proof != 0; pack++) {
                proof = foremostProof(pack, settled, proof);
                settled = taking(settled, pack, proof & optionsOf(pack));
            }
            return proof;
        }

        private long allOptions() {
            long all = 0;
            for (int pack = 0; pack < PACKS; pack++) {
                all |= optionsOf(pack);
            }
            return all;
        }

        /** A solution that gives a package the foremost option that any solution gives it. */
        private long foremostProof(int pack, long open, long proof) {
            long left = open & optionsOf(pack);
            for (int tries = 0; tries < OPTIONS && left != 0; tries++) {
                int option = foremost(pack, left);
                long other = isIn(proof, option) ? proof : anySolution(0, taking(open, pack, bit(option)));
                if (other != 0) {
                    return other;
                }
                left &= ~bit(option);
            }
            return proof;
        }

        /** Which of a package's options comes first: none, then the pinned version, then the highest. */
        private int foremost(int pack, long left) {
            if (isIn(left, noneOf(pack))) {
                return noneOf(pack);
            }
            if (pinned[pack] != NONE && isIn(left, pinned[pack])) {
                return pinned[pack];
            }
            return registry.highest(left);
        }

        /**
         * One solution among the open options, or 0. It decides reached packages alone: what is never
         * reached has no version, and to try its versions would be work for nothing.
         */
        private long anySolution(int depth, long open) {
            if (open == 0 || depth > PACKS) {
                return 0;
            }
            int reached = reachedThrough(settledIn(open));
            int pack = narrowest(open, reached);
            if (pack == NONE) {
                return narrowed(withoutUnreached(open, reached));
            }
            long left = open & optionsOf(pack);
            for (int tries = 0; tries < OPTIONS && left != 0; tries++) {
                int option = foremost(pack, left);
                long found = anySolution(depth + 1, taking(open, pack, bit(option)));
                if (found != 0) {
                    return found;
                }
                left &= ~bit(option);
            }
            return 0;
        }

        /** The options that are the only open one of their package. */
        private long settledIn(long open) {
            long settled = 0;
            for (int pack = 0; pack < PACKS; pack++) {
                long options = open & optionsOf(pack);
                if (Long.bitCount(options) == 1) {
                    settled |= options;
                }
            }
            return settled;
        }

        /** The package with the fewest options, but more than one, of those reached; or NONE. */
        private int narrowest(long open, int reached) {
            int found = NONE;
            int fewest = OPTIONS;
            for (int pack = 0; pack < PACKS; pack++) {
                int options = Long.bitCount(open & optionsOf(pack));
                if (isIn(reached, pack) && options > 1 && options < fewest) {
                    found = pack;
                    fewest = options;
                }
            }
            return found;
        }

        /** What stays open when a package takes one option. */
        private long taking(long open, int pack, long option) {
            return narrowed(open & (option | ~optionsOf(pack)));
        }

        /** Strikes out what can't be in a solution; 0 when a package has no option left. */
        private long narrowed(long open) {
            long now = open;
            // Each round but the last strikes out one option at least.
            for (int round = 0; round <= OPTIONS && now != 0; round++) {
                long before = now;
                now = supported(now);
                now = withoutUnreached(now, reachedThrough(now));
                if (now == before) {
                    return now;
                }
            }
            return now;
        }

        /** The options that have, in each package, one that they do not clash with. */
        private long supported(long open) {
            Arrays.fill(support, 0);
            for (int option = 0; option < OPTIONS; option++) {
                if (isIn(open, option)) {
                    support[packOf[option]] |= ~clash[option];
                }
            }
            long kept = open;
            for (int pack = 0; pack < PACKS; pack++) {
                kept &= support[pack];
            }
            return kept;
        }

        /** The packages, as bits, to which a set of versions leads from the root. */
        private int reachedThrough(long versions) {
            int reached = rootPacks;
            boolean grows = true;
            for (int round = 0; round < PACKS && grows; round++) {
                int before = reached;
                for (int v = 0; v < MOST_VERSIONS; v++) {
                    if (isIn(versions, v) && isIn(reached, packOf[v])) {
                        reached |= needed[v];
                    }
                }
                grows = reached != before;
            }
            return reached;
        }

        private long withoutUnreached(long open, int reached) {
            long kept = open;
            for (int pack = 0; pack < PACKS; pack++) {
                if (!isIn(reached, pack)) {
                    kept &= ~registry.ofPack[pack];
                }
            }
            return kept;
        }
    }
}
