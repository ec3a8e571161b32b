import java.nio.charset.StandardCharsets;
import java.util.ArrayList;
import java.util.Arrays;
import java.util.HashMap;
import java.util.List;
import java.util.Map;
import java.util.concurrent.Callable;
import java.util.regex.Pattern;

/**
 * Long runs of calls, answered by the program and by a model that follows the document's words
 * with regular expressions and by trying out all choices. The runs are the same each time.
 */
public final class ModelTest {
    private static final String[] WORDS = {"a", "b", "ab", "0", "1", "2", "10", "A", "-", "1-", "rc-1", "01a", "z9"};
    private static final String[] SIGNS = {"", "", "^", "~", "=", ">", ">=", "<", "<="};
    private static final String STRAY = "0123456789.,;-+*^~=<> abzAZ@[`{/:_";

    private static int wrong = 0;
    private static long seed = 1;

    public static void main(String[] args) {
        for (int run = 0; run < 3000; run++) {
            new Run(run, run % 2 == 1).play();
        }
        System.out.println(wrong == 0 ? "the model agrees" : wrong + " answers differ from the model's");
        if (wrong != 0) {
            System.exit(1);
        }
    }

    /** The same row of numbers in each run of the test. */
    private static int pick(int below) {
        seed = seed * 6364136223846793005L + 1442695040888963407L;
        return (int) ((seed >>> 33) % below);
    }

    private static String number(int spread) {
        int dice = pick(60);
        return dice == 0 ? "999999999" : dice == 1 ? "1000000000" : dice == 2 ? "01" : String.valueOf(pick(spread));
    }

    private static String words() {
        StringBuilder text = new StringBuilder(WORDS[pick(WORDS.length)]);
        while (pick(3) == 0) {
            text.append('.').append(WORDS[pick(WORDS.length)]);
        }
        return text.toString();
    }

    private static String version(int spread, int wordsOf) {
        String text = number(spread) + "." + number(spread) + "." + number(spread);
        return pick(wordsOf) == 0 ? text + "-" + words() : text;
    }

    private static String comparator(int spread, int wordsOf) {
        switch (pick(10)) {
            case 0: return "*";
            case 1: return number(spread) + ".*";
            case 2: return number(spread) + "." + number(spread) + ".*";
            case 3: return SIGNS[pick(SIGNS.length)] + number(spread);
            case 4: case 5: return SIGNS[pick(SIGNS.length)] + number(spread) + "." + number(spread);
            default: return SIGNS[pick(SIGNS.length)] + version(spread, wordsOf);
        }
    }

    private static String requirement(int spread, int wordsOf) {
        StringBuilder text = new StringBuilder();
        int many = pick(3) > 0 ? 1 : 1 + pick(pick(10) == 0 ? 5 : 3);
        for (int k = 0; k < many; k++) {
            text.append(k > 0 ? "," : "").append(pick(5) == 0 ? " " : "").append(comparator(spread, wordsOf));
            text.append(pick(8) == 0 ? " " : "");
        }
        return text.toString();
    }

    private static String publication(int spread, int wordsOf, int packs, int needs) {
        StringBuilder text = new StringBuilder(version(spread, wordsOf));
        if (pick(6) == 0) {
            text.append("+").append(words());
        }
        for (int k = pick(needs + 1); k > 0; k--) {
            text.append(";").append(pick(40) == 0 ? 8 : pick(packs)).append(" ").append(requirement(spread, wordsOf));
        }
        return text.toString();
    }

    /** Requirements that many versions meet, so that solutions have many packages. */
    private static String looseRequirement() {
        int low = 1 + pick(4);
        int high = low + pick(3);
        switch (pick(9)) {
            case 0: case 1: return "*";
            case 2: case 3: return ">=" + low;
            case 4: case 5: return "<=" + high;
            case 6: return ">=" + low + ", <=" + high + ".0.0";
            case 7: return ">=" + low + ".0.0-a, <=" + high + ".0.0-b";
            default: return SIGNS[pick(SIGNS.length)] + low;
        }
    }

    private static String loosePublication(int packs, int needs) {
        StringBuilder text = new StringBuilder();
        text.append(1 + pick(5)).append('.').append(pick(8) / 7).append(".0");
        text.append(pick(8) == 0 ? "-b" : "").append(pick(8) == 0 ? "+x" : "");
        int on = pick(packs);
        for (int k = pick(Math.min(needs, packs) + 1); k > 0; k--) {
            text.append(';').append(on).append(' ').append(looseRequirement());
            on = (on + 1 + pick(Math.max(1, packs / 5))) % packs;
        }
        return text.toString();
    }

    /** Now and then a byte more, less or other. */
    private static String perhapsSpoilt(String text) {
        if (pick(12) > 0 || text.isEmpty()) {
            return text;
        }
        int at = pick(text.length());
        char stray = STRAY.charAt(pick(STRAY.length()));
        switch (pick(3)) {
            case 0: return text.substring(0, at) + text.substring(at + 1);
            case 1: return text.substring(0, at) + stray + text.substring(at);
            default: return text.substring(0, at) + stray + text.substring(at + 1);
        }
    }

    private static final class Run {
        final int run;
        final VersionSolver program = new VersionSolver();
        final Model model = new Model();
        final List<String> calls = new ArrayList<>();
        final int spread = 2 + pick(3);
        final int wordsOf = 1 + pick(8);
        final int packs = 2 + pick(8);
        final int needs = pick(6);
        final int length = 30 + pick(480);
        final boolean loose;

        Run(int run, boolean loose) {
            this.run = run;
            this.loose = loose;
        }

        void play() {
            for (int k = pick(40); loose && k > 0 && calls.size() < length / 2; k--) {
                publish(pick(Math.min(packs, 8)));
            }
            while (calls.size() < length - 45) {
                step();
            }
        }

        void step() {
            int pack = pick(15) == 0 ? pick(12) - 2 : pick(packs);
            int version = pick(15) == 0 ? pick(44) - 2 : pick(Math.max(1, model.versions.size()));
            int what = pick(24);
            if (what < 7) {
                publish(pack);
            } else if (what < 10) {
                feed(perhapsSpoilt(anyRequirement()));
                same("want(" + pack + ")", () -> { program.want(pack); return 0; }, () -> model.want(pack));
            } else if (what < 12) {
                feed(perhapsSpoilt(anyRequirement()));
                same("meets(" + version + ")", () -> program.meets(version), () -> model.meets(version));
            } else if (what < 14) {
                feed(perhapsSpoilt(anyRequirement()));
                same("best(" + pack + ")", () -> program.best(pack), () -> model.best(pack));
            } else if (what < 17) {
                same("solve()", program::solve, model::solve);
                for (int p = 0; p < 8; p++) {
                    int each = p;
                    same("chosen(" + p + ")", () -> program.chosen(each), () -> model.chosen(each));
                }
            } else {
                smallStep(what, pack, version);
            }
        }

        void publish(int pack) {
            if (loose && model.choices() > 60000) {
                return;
            }
            int named = Math.min(packs, 8);
            feed(perhapsSpoilt(loose ? loosePublication(named, needs) : publication(spread, wordsOf, named, needs)));
            same("publish(" + pack + ")", () -> program.publish(pack), () -> model.publish(pack));
        }

        String anyRequirement() {
            return loose ? looseRequirement() : requirement(spread, wordsOf);
        }

        void smallStep(int what, int pack, int version) {
            boolean on = pick(3) > 0;
            int other = pick(Math.max(1, model.versions.size()));
            int k = pick(8) - 1;
            switch (what) {
                case 17:
                    same("yank(" + version + ", " + on + ")", () -> program.yank(version, on), () -> model.yank(version, on));
                    break;
                case 18:
                    same("drop(" + pack + ")", () -> program.drop(pack), () -> model.drop(pack));
                    break;
                case 19:
                    same("pin(" + version + ")", () -> program.pin(version), () -> model.pin(version));
                    break;
                case 20:
                    if (on) {
                        same("lock()", program::lock, model::lock);
                    } else {
                        same("unlock()", program::unlock, model::unlock);
                    }
                    break;
                case 21:
                    same("compare", () -> program.compare(version, other), () -> model.compare(version, other));
                    same("needs", () -> program.needs(version, k), () -> model.needs(version, k));
                    break;
                case 22:
                    same("told(" + k + ")", () -> program.told(k), () -> model.told(k));
                    break;
                default:
                    same("write()", program::write, model::write);
                    int i = pick(pick(10) + 1) == 0 ? pick(230) - 2 : pick(20);
                    same("fileByte(" + i + ")", () -> program.fileByte(i), () -> model.fileByte(i));
            }
        }

        void feed(String text) {
            byte[] bytes = text.getBytes(StandardCharsets.ISO_8859_1);
            int at = 0;
            while (at < bytes.length) {
                int n = Math.min(bytes.length - at, pick(4) == 0 ? 1 + pick(8) : 8);
                long eight = n < 8 ? (long) pick(1 << 30) << 34 & -1L << 8 * n : 0;
                for (int i = 0; i < n; i++) {
                    eight |= (bytes[at + i] & 255L) << 8 * i;
                }
                long fed = eight;
                same("feed \"" + text.substring(at, at + n) + "\"", () -> program.feed(fed, n), () -> model.feed(fed, n));
                at += n;
            }
        }

        void same(String call, Callable<Object> got, Callable<Object> due) {
            String answer = outcome(got);
            String expected = outcome(due);
            calls.add(call + " = " + expected);
            if (!answer.equals(expected)) {
                wrong++;
                System.out.println("run " + run + ": " + call + " answered " + answer + ", due is " + expected);
                if (wrong == 1) {
                    System.out.println(String.join("\n", calls));
                }
            }
        }

        static String outcome(Callable<Object> call) {
            try {
                return String.valueOf(call.call());
            } catch (Exception e) {
                return e.getClass().getSimpleName();
            }
        }
    }

    private static final class Entry {
        int pack;
        String written;
        boolean yanked;
        final List<Integer> packs = new ArrayList<>();
        final List<String> requirements = new ArrayList<>();
    }

    /** The document, word for word where it can be. */
    private static final class Model {
        static final String NUM = "(?:0|[1-9][0-9]{0,8})";
        static final String WORD = "[0-9A-Za-z-]+";
        static final String PRE = "(?:" + NUM + "|[0-9A-Za-z-]*[A-Za-z-][0-9A-Za-z-]*)";
        static final String BARE = NUM + "\\." + NUM + "\\." + NUM + "(?:-" + PRE + "(?:\\." + PRE + ")*)?";
        static final Pattern VERSION = Pattern.compile(BARE + "(?:\\+" + WORD + "(?:\\." + WORD + ")*)?");
        static final Pattern COMPARATOR = Pattern.compile("\\*|" + NUM + "\\.\\*|" + NUM + "\\." + NUM + "\\.\\*|"
                + "(?:\\^|~|=|>|>=|<|<=)?(?:" + NUM + "|" + NUM + "\\." + NUM + "|" + BARE + ")");

        static final Map<String, Boolean> MET = new HashMap<>();

        final List<Entry> versions = new ArrayList<>();
        final String[] root = new String[8];
        final int[] pins = new int[8];
        int[] choice = new int[8];
        String text = "";
        String file = "";

        Model() {
            Arrays.fill(pins, -1);
            Arrays.fill(choice, -1);
        }

        int feed(long bytes, int n) {
            if (text.length() + n > 160) {
                throw new IllegalStateException();
            }
            for (int i = 0; i < n; i++) {
                text += (char) (bytes >>> 8 * i & 255);
            }
            return text.length();
        }

        String take() {
            String all = text;
            text = "";
            return all;
        }

        static void check(boolean right) {
            if (!right) {
                throw new IllegalArgumentException();
            }
        }

        static void index(boolean right) {
            if (!right) {
                throw new IndexOutOfBoundsException();
            }
        }

        void pack(int pack) {
            index(pack >= 0 && pack < 8);
        }

        Entry entry(int version) {
            index(version >= 0 && version < versions.size());
            return versions.get(version);
        }

        static boolean isVersion(String text) {
            return text.length() <= 24 && VERSION.matcher(text).matches();
        }

        static boolean isRequirement(String text) {
            String[] parts = text.split(",", -1);
            if (parts.length > 4) {
                return false;
            }
            for (String part : parts) {
                String bare = part.replaceAll("^ *| *$", "");
                if (!COMPARATOR.matcher(bare).matches() || bare.replaceAll("^[\\^~=<>]+", "").length() > 24) {
                    return false;
                }
            }
            return true;
        }

        int publish(int pack) {
            String[] parts = take().split(";", -1);
            pack(pack);
            check(isVersion(parts[0]) && parts.length <= 6);
            Entry entry = new Entry();
            entry.pack = pack;
            entry.written = parts[0];
            for (int k = 1; k < parts.length; k++) {
                check(parts[k].matches("(?s)[0-7] .*") && isRequirement(parts[k].substring(2)));
                int on = parts[k].charAt(0) - '0';
                check(!entry.packs.contains(on));
                entry.packs.add(on);
                entry.requirements.add(parts[k].substring(2));
            }
            for (Entry other : versions) {
                if (other.pack == pack && precedence(other.written, entry.written) == 0) {
                    throw new IllegalStateException();
                }
            }
            if (versions.size() == 40) {
                throw new UnsupportedOperationException();
            }
            versions.add(entry);
            return versions.size() - 1;
        }

        boolean yank(int version, boolean on) {
            boolean was = entry(version).yanked;
            entry(version).yanked = on;
            return was;
        }

        int want(int pack) {
            String all = take();
            pack(pack);
            check(isRequirement(all));
            root[pack] = all;
            return 0;
        }

        boolean drop(int pack) {
            pack(pack);
            boolean was = root[pack] != null;
            root[pack] = null;
            return was;
        }

        int chosen(int pack) {
            pack(pack);
            return choice[pack];
        }

        static int given(int[] row) {
            return (int) Arrays.stream(row).filter(v -> v >= 0).count();
        }

        int lock() {
            System.arraycopy(choice, 0, pins, 0, 8);
            return given(pins);
        }

        int pin(int version) {
            int pack = entry(version).pack;
            int was = pins[pack];
            pins[pack] = version;
            return was;
        }

        int unlock() {
            int was = given(pins);
            Arrays.fill(pins, -1);
            return was;
        }

        boolean meets(int version) {
            String all = take();
            Entry entry = entry(version);
            check(isRequirement(all));
            return isMet(entry.written, all);
        }

        int best(int pack) {
            String all = take();
            pack(pack);
            check(isRequirement(all));
            int top = -1;
            for (int v = 0; v < versions.size(); v++) {
                Entry entry = versions.get(v);
                if (entry.pack == pack && !entry.yanked && isMet(entry.written, all)
                        && (top < 0 || precedence(entry.written, versions.get(top).written) > 0)) {
                    top = v;
                }
            }
            return top;
        }

        int compare(int version, int other) {
            Entry first = entry(version);
            return Integer.signum(precedence(first.written, entry(other).written));
        }

        int needs(int version, int k) {
            Entry entry = entry(version);
            return k >= 0 && k < entry.packs.size() ? entry.packs.get(k) : -1;
        }

        int told(int what) {
            switch (what) {
                case 0: return versions.size();
                case 1: return (int) versions.stream().filter(e -> e.yanked).count();
                case 2: return (int) Arrays.stream(root).filter(r -> r != null).count();
                case 3: return given(pins);
                case 4: return text.length();
                default: return -1;
            }
        }

        int write() {
            file = "";
            for (int pack = 0; pack < 8; pack++) {
                if (choice[pack] >= 0) {
                    file += pack + " " + versions.get(choice[pack]).written + "\n";
                }
            }
            return file.length();
        }

        int fileByte(int i) {
            index(i >= 0 && i < file.length());
            return file.charAt(i);
        }

        static int precedence(String x, String y) {
            String[] left = x.replaceAll("\\+.*", "").split("-", 2);
            String[] right = y.replaceAll("\\+.*", "").split("-", 2);
            String[] leftNumbers = left[0].split("\\.");
            String[] rightNumbers = right[0].split("\\.");
            for (int i = 0; i < 3; i++) {
                int order = Long.compare(Long.parseLong(leftNumbers[i]), Long.parseLong(rightNumbers[i]));
                if (order != 0) {
                    return order;
                }
            }
            if (left.length != right.length) {
                return right.length - left.length;
            }
            return left.length == 1 ? 0 : wordsPrecedence(left[1].split("\\."), right[1].split("\\."));
        }

        static int wordsPrecedence(String[] left, String[] right) {
            for (int i = 0; i < Math.min(left.length, right.length); i++) {
                boolean leftDigits = left[i].matches("[0-9]+");
                boolean rightDigits = right[i].matches("[0-9]+");
                int order = leftDigits != rightDigits ? (leftDigits ? -1 : 1)
                        : leftDigits ? Long.compare(Long.parseLong(left[i]), Long.parseLong(right[i]))
                        : left[i].compareTo(right[i]);
                if (order != 0) {
                    return order;
                }
            }
            return left.length - right.length;
        }

        static boolean isMet(String version, String requirement) {
            String numbers = version.replaceAll("\\+.*", "").split("-", 2)[0];
            boolean named = !version.replaceAll("\\+.*", "").contains("-");
            for (String part : requirement.split(",")) {
                String bare = part.trim();
                named |= bare.replaceAll("^[\\^~=<>]+", "").startsWith(numbers + "-");
                if (!isComparatorMet(version, bare)) {
                    return false;
                }
            }
            return named;
        }

        static boolean between(String version, String from, String below) {
            return precedence(version, from) >= 0 && precedence(version, below) < 0;
        }

        static boolean isComparatorMet(String version, String comparator) {
            if (comparator.equals("*")) {
                return true;
            }
            String sign = comparator.replaceAll("[0-9].*", "");
            String rest = comparator.substring(sign.length());
            if (rest.endsWith(".*")) {
                sign = "~";
                rest = rest.substring(0, rest.length() - 2);
            }
            String[] numbers = rest.split("-", 2)[0].split("\\.");
            long a = Long.parseLong(numbers[0]);
            long b = numbers.length > 1 ? Long.parseLong(numbers[1]) : 0;
            long c = numbers.length > 2 ? Long.parseLong(numbers[2]) : 0;
            String nextA = (a + 1) + ".0.0";
            String nextB = a + "." + (b + 1) + ".0";
            if (numbers.length == 3) {
                int order = precedence(version, rest);
                switch (sign) {
                    case "~": return between(version, rest, nextB);
                    case "=": return order == 0;
                    case ">": return order > 0;
                    case ">=": return order >= 0;
                    case "<": return order < 0;
                    case "<=": return order <= 0;
                    default: return between(version, rest, a > 0 ? nextA : b > 0 ? nextB : "0.0." + (c + 1));
                }
            }
            String from = a + "." + b + ".0";
            String next = numbers.length == 1 ? nextA : nextB;
            switch (sign) {
                case "~": case "=": return between(version, from, next);
                case ">": return precedence(version, next) >= 0;
                case ">=": return precedence(version, from) >= 0;
                case "<": return precedence(version, from) < 0;
                case "<=": return precedence(version, next) < 0;
                default: return between(version, from, numbers.length == 1 || a > 0 ? nextA : nextB);
            }
        }

        int solve() {
            int[] row = new int[8];
            Arrays.fill(row, -1);
            if (!fill(row, 0)) {
                throw new IllegalStateException();
            }
            choice = row;
            return given(row);
        }

        /** All rows in the order of BEFORE, but for those whose beginning is wrong already. */
        boolean fill(int[] row, int pack) {
            if (pack == 8) {
                return isSolution(row, 8) && isReached(row);
            }
            for (int option : options(pack)) {
                row[pack] = option;
                if (isSolution(row, pack + 1) && fill(row, pack + 1)) {
                    return true;
                }
            }
            row[pack] = -1;
            return false;
        }

        List<Integer> options(int pack) {
            List<Integer> found = new ArrayList<>();
            for (int v = 0; v < versions.size(); v++) {
                if (versions.get(v).pack == pack && (!versions.get(v).yanked || pins[pack] == v)) {
                    found.add(v);
                }
            }
            found.sort((x, y) -> pins[pack] == x ? -1 : pins[pack] == y ? 1
                    : precedence(versions.get(y).written, versions.get(x).written));
            found.add(0, -1);
            return found;
        }

        boolean isSolution(int[] row, int packs) {
            for (int pack = 0; pack < packs; pack++) {
                if (root[pack] != null && !isGiven(row, pack, root[pack])) {
                    return false;
                }
                for (int k = 0; row[pack] >= 0 && k < versions.get(row[pack]).packs.size(); k++) {
                    Entry entry = versions.get(row[pack]);
                    if (entry.packs.get(k) < packs && !isGiven(row, entry.packs.get(k), entry.requirements.get(k))) {
                        return false;
                    }
                }
            }
            return true;
        }

        boolean isGiven(int[] row, int pack, String requirement) {
            if (row[pack] < 0) {
                return false;
            }
            String written = versions.get(row[pack]).written;
            return MET.computeIfAbsent(written + " " + requirement, key -> isMet(written, requirement));
        }

        /** How many rows solve() would try at the worst. */
        long choices() {
            long product = 1;
            for (int pack = 0; pack < 8; pack++) {
                int each = pack;
                product *= 1 + versions.stream().filter(e -> e.pack == each).count();
            }
            return product;
        }

        boolean isReached(int[] row) {
            boolean[] reached = new boolean[8];
            for (int pack = 0; pack < 8; pack++) {
                if (root[pack] != null) {
                    reach(row, pack, reached);
                }
            }
            for (int pack = 0; pack < 8; pack++) {
                if (row[pack] >= 0 && !reached[pack]) {
                    return false;
                }
            }
            return true;
        }

        void reach(int[] row, int pack, boolean[] reached) {
            if (!reached[pack] && row[pack] >= 0) {
                reached[pack] = true;
                for (int on : versions.get(row[pack]).packs) {
                    reach(row, on, reached);
                }
            }
        }
    }
}
