import java.time.DateTimeException;
import java.time.LocalDate;
import java.util.ArrayDeque;
import java.util.ArrayList;
import java.util.Comparator;
import java.util.HashMap;
import java.util.HashSet;
import java.util.LinkedHashMap;
import java.util.List;
import java.util.Map;
import java.util.NoSuchElementException;
import java.util.Set;
import java.util.TreeMap;
import java.util.TreeSet;
import java.util.regex.Matcher;
import java.util.regex.Pattern;

/** The document once more, as plainly as the Java library allows, to hold the class against. */
final class Model {
    static final class Made {
        int number;
        int kind;
        int hand;
        int count;
        int first = -1;
        int second = -1;
        String text = "";
    }

    static final Comparator<Made> EARLIER = Comparator.<Made>comparingInt(c -> c.count).thenComparingInt(c -> c.hand);

    final List<Made> all = new ArrayList<>();
    final List<Set<Integer>> knows = List.of(new TreeSet<>(), new TreeSet<>(), new TreeSet<>());
    String text = "";
    String page = "";
    int country = 49;
    List<int[]> suggestions = new ArrayList<>();
    List<int[]> finds = new ArrayList<>();
    List<int[]> returns = new ArrayList<>();

    // what is made

    int type(long bytes) {
        StringBuilder more = new StringBuilder(text);
        for (byte one : java.nio.ByteBuffer.allocate(8).putLong(bytes).array()) {
            if (one != 0) {
                more.append((char) (one & 255));
            }
        }
        if (more.length() > 400) {
            throw new IllegalStateException();
        }
        text = more.toString();
        return text.length();
    }

    int clearText() {
        int before = text.length();
        text = "";
        return before;
    }

    int setCountry(int number) {
        if (number < 1 || number > 999) {
            throw new IllegalArgumentException();
        }
        int before = country;
        country = number;
        return before;
    }

    int entry(int book) {
        checkBook(book);
        checkRoom();
        return make(book, 0, -1, -1, "");
    }

    int line(int book, int entry, int kind) {
        checkBook(book);
        checkKind(kind);
        checkLive(book, entry);
        if (!isForLine(kind, text)) {
            throw new IllegalStateException();
        }
        checkRoom();
        String read = text;
        text = "";
        return make(book, 1, entry, kind, read);
    }

    int join(int book, int one, int other) {
        return makeOfTwo(book, 2, one, other);
    }

    int never(int book, int one, int other) {
        return makeOfTwo(book, 3, one, other);
    }

    int member(int book, int house, int entry) {
        return makeOfTwo(book, 4, house, entry);
    }

    int gone(int book, int entry) {
        checkBook(book);
        checkLive(book, entry);
        checkRoom();
        return make(book, 5, entry, -1, "");
    }

    int back(int book, int change) {
        checkBook(book);
        checkChange(change);
        if (!counts(book, change)) {
            throw new NoSuchElementException();
        }
        checkRoom();
        return make(book, 6, change, -1, "");
    }

    int undo(int book) {
        checkBook(book);
        Made latest = all.stream().filter(c -> c.hand == book && c.kind != 6 && counts(book, c.number)).max(EARLIER).orElse(null);
        if (latest == null) {
            return -1;
        }
        checkRoom();
        make(book, 6, latest.number, -1, "");
        return latest.number;
    }

    int hear(int book, int from) {
        checkBook(book);
        checkBook(from);
        int before = knows.get(book).size();
        knows.get(book).addAll(knows.get(from));
        return knows.get(book).size() - before;
    }

    int changes() {
        return all.size();
    }

    int change(int change, int what) {
        checkChange(change);
        Made made = all.get(change);
        if (what < 0 || what > 5) {
            throw new IllegalArgumentException();
        }
        return new int[] {made.kind, made.hand, made.count, made.first, made.second, made.text.length()}[what];
    }

    int known(int book) {
        checkBook(book);
        return knows.get(book).size();
    }

    boolean counts(int book, int change) {
        checkBook(book);
        checkChange(change);
        if (!knows.get(book).contains(change)) {
            return false;
        }
        for (int other : knows.get(book)) {
            if (other > change && all.get(other).kind == 6 && all.get(other).first == change && counts(book, other)) {
                return false;
            }
        }
        return true;
    }

    boolean stands(int book, int change) {
        checkBook(book);
        checkChange(change);
        Made made = all.get(change);
        if (made.kind == 0) {
            return isLive(book, change);
        }
        if (made.kind > 4) {
            return counts(book, change);
        }
        return counts(book, change) && isLive(book, made.first) && (made.kind == 1 || isLive(book, made.second));
    }

    // groups

    boolean holds(int book, int change) {
        checkBook(book);
        checkChange(change);
        Set<Integer> holding = new HashSet<>();
        joined(book, holding);
        return holding.contains(change);
    }

    int groups(int book) {
        checkBook(book);
        return joined(book, new HashSet<>()).size();
    }

    int groupAt(int book, int index) {
        checkBook(book);
        List<Integer> numbers = new ArrayList<>(joined(book, new HashSet<>()).keySet());
        checkIndex(index, numbers.size());
        return numbers.get(index);
    }

    int groupOf(int book, int entry) {
        checkBook(book);
        checkLive(book, entry);
        return groupSet(book, entry).first();
    }

    int sizeOf(int book, int entry) {
        checkBook(book);
        checkLive(book, entry);
        return groupSet(book, entry).size();
    }

    int path(int book, int one, int other, int index) {
        checkBook(book);
        checkLive(book, one);
        checkLive(book, other);
        List<Integer> best = shortest(book, one, other);
        if (index == -1) {
            return best.size();
        }
        checkIndex(index, best.size());
        return best.get(index);
    }

    /** Goes breadth first from the one, neighbours in order, so that the first row to arrive is the due one. */
    private List<Integer> shortest(int book, int one, int other) {
        Set<Integer> holding = new HashSet<>();
        joined(book, holding);
        Map<Integer, TreeSet<Integer>> beside = new HashMap<>();
        for (int join : holding) {
            Made made = all.get(join);
            beside.computeIfAbsent(made.first, k -> new TreeSet<>()).add(made.second);
            beside.computeIfAbsent(made.second, k -> new TreeSet<>()).add(made.first);
        }
        Map<Integer, List<Integer>> rows = new LinkedHashMap<>();
        rows.put(one, List.of(one));
        ArrayDeque<Integer> open = new ArrayDeque<>(List.of(one));
        while (!open.isEmpty()) {
            int here = open.poll();
            for (int next : beside.getOrDefault(here, new TreeSet<>())) {
                if (!rows.containsKey(next)) {
                    List<Integer> row = new ArrayList<>(rows.get(here));
                    row.add(next);
                    rows.put(next, row);
                    open.add(next);
                }
            }
        }
        return rows.getOrDefault(other, List.of());
    }

    int forbids(int book, int one, int other) {
        checkBook(book);
        checkLive(book, one);
        checkLive(book, other);
        return forbidding(book, groupSet(book, one), groupSet(book, other));
    }

    private int forbidding(int book, Set<Integer> left, Set<Integer> right) {
        for (Made made : inOrder(book)) {
            boolean isBetween = left.contains(made.first) && right.contains(made.second)
                || left.contains(made.second) && right.contains(made.first);
            if (made.kind == 3 && stands(book, made.number) && isBetween) {
                return made.number;
            }
        }
        return -1;
    }

    int shown(int book, int entry, int kind) {
        checkBook(book);
        checkKind(kind);
        checkLive(book, entry);
        return shownLines(book, groupSet(book, entry), kind).size();
    }

    int shownAt(int book, int entry, int kind, int index) {
        checkBook(book);
        checkKind(kind);
        checkLive(book, entry);
        List<Made> lines = shownLines(book, groupSet(book, entry), kind);
        checkIndex(index, lines.size());
        return lines.get(index).number;
    }

    int values(int book, int entry, int kind) {
        checkBook(book);
        checkKind(kind);
        checkLive(book, entry);
        Set<String> values = new HashSet<>();
        for (Made line : lines(book, groupSet(book, entry), kind)) {
            values.add(value(kind, line.text));
        }
        return values.size();
    }

    // texts

    int write(int change, int form) {
        checkChange(change);
        if (form < 0 || form > 3) {
            throw new IllegalArgumentException();
        }
        String told = all.get(change).text;
        page = List.of(told, plain(told), call(told), sound(told)).get(form);
        return page.length();
    }

    int pageAt(int index) {
        checkIndex(index, page.length());
        return page.charAt(index);
    }

    int likeness(int book, int one, int other) {
        checkBook(book);
        checkLive(book, one);
        checkLive(book, other);
        Set<Integer> left = groupSet(book, one);
        Set<Integer> right = groupSet(book, other);
        return left.equals(right) ? 1000 : alike(book, left, right)[4];
    }

    int suggest(int book, int bar) {
        checkBook(book);
        if (bar < 401 || bar > 1000) {
            throw new IllegalArgumentException();
        }
        List<int[]> found = new ArrayList<>();
        for (int[] pair : pairs(book)) {
            if (pair[2] >= bar && pair[3] == -1) {
                found.add(pair);
            }
        }
        found.sort(Comparator.<int[]>comparingInt(p -> -p[2]).thenComparingInt(p -> p[0]).thenComparingInt(p -> p[1]));
        suggestions = found;
        return found.size();
    }

    int suggested(int index, int what) {
        checkIndex(index, suggestions.size());
        if (what < 0 || what > 2) {
            throw new IllegalArgumentException();
        }
        return suggestions.get(index)[what];
    }

    int looked(int book) {
        checkBook(book);
        int looked = 0;
        for (int[] pair : pairs(book)) {
            looked += pair[4];
        }
        return looked;
    }

    int search(int book, int how) {
        checkBook(book);
        if (how < 0 || how > 2) {
            throw new IllegalArgumentException();
        }
        String sought = plain(text);
        if (sought.isEmpty()) {
            throw new IllegalStateException();
        }
        List<int[]> found = new ArrayList<>();
        for (Map.Entry<Integer, TreeSet<Integer>> group : joined(book, new HashSet<>()).entrySet()) {
            int best = Integer.MAX_VALUE;
            for (Made line : lines(book, group.getValue(), 0)) {
                best = Math.min(best, rank(plain(line.text), how, sought));
            }
            if (best < Integer.MAX_VALUE) {
                found.add(new int[] {group.getKey(), best});
            }
        }
        found.sort(Comparator.<int[]>comparingInt(p -> p[1]).thenComparingInt(p -> p[0]));
        finds = found;
        return found.size();
    }

    private static int rank(String name, int how, String sought) {
        int best = Integer.MAX_VALUE;
        if (how == 1) {
            return name.contains(sought) ? name.indexOf(sought) : best;
        }
        for (String word : name.split(" ")) {
            if (how == 0 && word.startsWith(sought)) {
                best = Math.min(best, word.length() - sought.length());
            }
            if (how == 2 && !word.isEmpty() && distance(word, sought) <= 2) {
                best = Math.min(best, distance(word, sought));
            }
        }
        return best;
    }

    int found(int index, boolean isRank) {
        checkIndex(index, finds.size());
        return finds.get(index)[isRank ? 1 : 0];
    }

    int members(int book, int house) {
        checkBook(book);
        checkLive(book, house);
        return household(book, house).size();
    }

    int memberAt(int book, int house, int index) {
        checkBook(book);
        checkLive(book, house);
        List<Integer> found = household(book, house);
        checkIndex(index, found.size());
        return found.get(index);
    }

    private List<Integer> household(int book, int house) {
        Set<Integer> own = groupSet(book, house);
        Set<Integer> found = new TreeSet<>();
        for (Made made : all) {
            if (made.kind == 4 && stands(book, made.number) && own.contains(made.first) && !own.contains(made.second)) {
                found.add(groupOf(book, made.second));
            }
        }
        return new ArrayList<>(found);
    }

    int yearly(int book, int year, int month, int day, int days) {
        checkBook(book);
        if (year < 1 || year > 9998 || days < 0 || days > 365) {
            throw new IllegalArgumentException();
        }
        LocalDate start;
        try {
            start = LocalDate.of(year, month, day);
        } catch (DateTimeException e) {
            throw new IllegalArgumentException();
        }
        List<int[]> found = new ArrayList<>();
        for (Map.Entry<Integer, TreeSet<Integer>> group : joined(book, new HashSet<>()).entrySet()) {
            for (Made line : shownLines(book, group.getValue(), 3)) {
                for (int i = 0; i <= days; i++) {
                    LocalDate here = start.plusDays(i);
                    if (comesOn(LocalDate.parse(line.text), here)) {
                        found.add(new int[] {group.getKey(), i, here.getYear() - LocalDate.parse(line.text).getYear()});
                        break;
                    }
                }
            }
        }
        found.sort(Comparator.<int[]>comparingInt(p -> p[1]).thenComparingInt(p -> p[0]));
        returns = found;
        return found.size();
    }

    private static boolean comesOn(LocalDate day, LocalDate here) {
        if (day.getMonthValue() == 2 && day.getDayOfMonth() == 29 && !here.isLeapYear()) {
            return here.getMonthValue() == 3 && here.getDayOfMonth() == 1;
        }
        return day.getMonthValue() == here.getMonthValue() && day.getDayOfMonth() == here.getDayOfMonth();
    }

    int yearlyAt(int index, int what) {
        checkIndex(index, returns.size());
        if (what < 0 || what > 2) {
            throw new IllegalArgumentException();
        }
        return returns.get(index)[what];
    }

    // papers

    int errorKind() {
        return error()[0];
    }

    int errorPlace() {
        return error()[1];
    }

    private static final Pattern LINE_HEAD = Pattern.compile("[nwpdt]:([^;.:]*)", Pattern.DOTALL);

    /** Kind and place of the first error of the text as a paper. */
    private int[] error() {
        int cost = 0;
        int at = 0;
        boolean isOpen = false;
        while (isOpen || at < text.length()) {
            Matcher matcher = LINE_HEAD.matcher(text).region(at, text.length());
            if (!matcher.lookingAt()) {
                boolean hasLetter = at < text.length() && "nwpdt".indexOf(text.charAt(at)) >= 0;
                return new int[] {1, hasLetter ? at + 1 : at};
            }
            String told = matcher.group(1);
            int end = matcher.end();
            if (told.isEmpty() && end == text.length()) {
                return new int[] {1, end};
            }
            if (!isForLine("nwpdt".indexOf(text.charAt(at)), told)) {
                return new int[] {2, at + 2};
            }
            if (end == text.length() || text.charAt(end) == ':') {
                return new int[] {1, end};
            }
            cost += isOpen ? 1 : 2;
            isOpen = text.charAt(end) == ';';
            at = end + 1;
        }
        return all.size() + cost > 250 ? new int[] {3, text.length()} : new int[] {0, -1};
    }

    int readIn(int book) {
        checkBook(book);
        if (error()[0] != 0) {
            throw new IllegalStateException();
        }
        String paper = text;
        text = "";
        int made = 0;
        for (String card : paper.isEmpty() ? new String[0] : paper.split("\\.")) {
            List<String> values = new ArrayList<>();
            for (String line : card.split(";")) {
                int kind = "nwpdt".indexOf(line.charAt(0));
                values.add(kind + value(kind, line.substring(2)));
            }
            values.sort(null);
            if (!isKnownCard(book, values)) {
                made++;
                int entry = make(book, 0, -1, -1, "");
                for (String line : card.split(";")) {
                    make(book, 1, entry, "nwpdt".indexOf(line.charAt(0)), line.substring(2));
                }
            }
        }
        return made;
    }

    private boolean isKnownCard(int book, List<String> values) {
        for (Made made : all) {
            if (made.kind == 0 && isLive(book, made.number)) {
                List<String> own = new ArrayList<>();
                for (Made line : all) {
                    if (line.kind == 1 && line.first == made.number && stands(book, line.number)) {
                        own.add(line.second + value(line.second, line.text));
                    }
                }
                own.sort(null);
                if (own.equals(values)) {
                    return true;
                }
            }
        }
        return false;
    }

    // books as wholes

    boolean agree(int one, int other) {
        checkBook(one);
        checkBook(other);
        return knows.get(one).equals(knows.get(other));
    }

    long digest(int book) {
        checkBook(book);
        long sum = 7;
        for (Map.Entry<Integer, TreeSet<Integer>> group : joined(book, new HashSet<>()).entrySet()) {
            sum = sum * 31 + group.getKey();
            for (int kind = 0; kind < 5; kind++) {
                for (Made line : shownLines(book, group.getValue(), kind)) {
                    sum = sum * 31 + line.number;
                }
            }
        }
        return sum;
    }

    int errors(int book) {
        checkBook(book);
        return 0;
    }

    double meanLines(int book) {
        checkBook(book);
        int lines = 0;
        int entries = 0;
        for (Made made : all) {
            lines += made.kind == 1 && stands(book, made.number) ? 1 : 0;
            entries += made.kind == 0 && stands(book, made.number) ? 1 : 0;
        }
        return entries == 0 ? 0 : (double) lines / entries;
    }

    float countShare(int book) {
        checkBook(book);
        int counting = 0;
        for (int change : knows.get(book)) {
            counting += counts(book, change) ? 1 : 0;
        }
        return knows.get(book).isEmpty() ? 0 : (float) counting / knows.get(book).size();
    }

    // what they share

    private void checkBook(int book) {
        checkIndex(book, 3);
    }

    private void checkChange(int change) {
        checkIndex(change, all.size());
    }

    private static void checkIndex(int index, int size) {
        if (index < 0 || index >= size) {
            throw new IndexOutOfBoundsException();
        }
    }

    private static void checkKind(int kind) {
        if (kind < 0 || kind > 4) {
            throw new IllegalArgumentException();
        }
    }

    private void checkRoom() {
        if (all.size() == 250) {
            throw new IllegalStateException();
        }
    }

    private void checkLive(int book, int entry) {
        if (!isLive(book, entry)) {
            throw new NoSuchElementException();
        }
    }

    private boolean isLive(int book, int entry) {
        if (entry < 0 || entry >= all.size() || all.get(entry).kind != 0 || !counts(book, entry)) {
            return false;
        }
        for (Made made : all) {
            if (made.kind == 5 && made.first == entry && counts(book, made.number)) {
                return false;
            }
        }
        return true;
    }

    private int makeOfTwo(int book, int kind, int one, int other) {
        checkBook(book);
        if (one == other) {
            throw new IllegalArgumentException();
        }
        checkLive(book, one);
        checkLive(book, other);
        checkRoom();
        return make(book, kind, one, other, "");
    }

    private int make(int book, int kind, int first, int second, String told) {
        Made made = new Made();
        made.number = all.size();
        made.kind = kind;
        made.hand = book;
        made.count = 1 + knows.get(book).stream().mapToInt(c -> all.get(c).count).max().orElse(0);
        made.first = first;
        made.second = second;
        made.text = told;
        all.add(made);
        knows.get(book).add(made.number);
        return made.number;
    }

    private List<Made> inOrder(int book) {
        List<Made> known = new ArrayList<>();
        for (int change : knows.get(book)) {
            known.add(all.get(change));
        }
        known.sort(EARLIER);
        return known;
    }

    /** The groups of a book by their numbers; the JOINs that hold are put into a set. */
    private TreeMap<Integer, TreeSet<Integer>> joined(int book, Set<Integer> holding) {
        List<TreeSet<Integer>> sets = new ArrayList<>();
        List<Made> nevers = new ArrayList<>();
        for (Made made : all) {
            if (made.kind == 0 && isLive(book, made.number)) {
                sets.add(new TreeSet<>(Set.of(made.number)));
            }
            if (made.kind == 3 && stands(book, made.number)) {
                nevers.add(made);
            }
        }
        for (Made made : inOrder(book)) {
            if (made.kind == 2 && stands(book, made.number)) {
                TreeSet<Integer> whole = new TreeSet<>();
                for (TreeSet<Integer> set : sets) {
                    if (set.contains(made.first) || set.contains(made.second)) {
                        whole.addAll(set);
                    }
                }
                if (nevers.stream().noneMatch(n -> whole.contains(n.first) && whole.contains(n.second))) {
                    holding.add(made.number);
                    sets.removeIf(whole::containsAll);
                    sets.add(whole);
                }
            }
        }
        TreeMap<Integer, TreeSet<Integer>> groups = new TreeMap<>();
        for (TreeSet<Integer> set : sets) {
            groups.put(set.first(), set);
        }
        return groups;
    }

    private TreeSet<Integer> groupSet(int book, int entry) {
        for (TreeSet<Integer> set : joined(book, new HashSet<>()).values()) {
            if (set.contains(entry)) {
                return set;
            }
        }
        throw new AssertionError("a live entry is in a group");
    }

    private List<Made> lines(int book, Set<Integer> group, int kind) {
        List<Made> lines = new ArrayList<>();
        for (Made made : inOrder(book)) {
            if (made.kind == 1 && made.second == kind && group.contains(made.first) && stands(book, made.number)) {
                lines.add(made);
            }
        }
        return lines;
    }

    private List<Made> shownLines(int book, Set<Integer> group, int kind) {
        List<Made> lines = lines(book, group, kind);
        if (kind == 0 || kind == 3) {
            return lines.isEmpty() ? lines : lines.subList(lines.size() - 1, lines.size());
        }
        Map<String, Made> firsts = new LinkedHashMap<>();
        for (Made line : lines) {
            firsts.putIfAbsent(value(kind, line.text), line);
        }
        return new ArrayList<>(firsts.values());
    }

    static boolean isForLine(int kind, String told) {
        if (!told.matches("[ -~]{1,40}")) {
            return false;
        }
        if (kind != 3) {
            return true;
        }
        if (!told.matches("\\d{4}-\\d{2}-\\d{2}") || told.startsWith("0000")) {
            return false;
        }
        try {
            LocalDate.parse(told);
            return true;
        } catch (DateTimeException e) {
            return false;
        }
    }

    private String value(int kind, String told) {
        return kind == 0 || kind == 2 ? plain(told) : kind == 1 ? call(told) : told;
    }

    static String plain(String told) {
        return told.replaceAll("[^A-Za-z0-9]+", " ").trim().toLowerCase(java.util.Locale.ROOT);
    }

    String call(String told) {
        if (!told.matches("[-/(). ]*\\+?[-/(). ]*\\d[-/(). \\d]*")) {
            return plain(told);
        }
        String digits = told.replaceAll("\\D", "");
        if (told.contains("+")) {
            return "+" + digits;
        }
        if (digits.startsWith("00")) {
            return "+" + digits.substring(2);
        }
        return "+" + country + (digits.startsWith("0") ? digits.substring(1) : digits);
    }

    static String sound(String told) {
        String letters = plain(told).replaceAll("[^a-z]", "");
        if (letters.isEmpty()) {
            return "";
        }
        StringBuilder classes = new StringBuilder();
        for (char letter : letters.toCharArray()) {
            classes.append(letterClass(letter));
        }
        StringBuilder kept = new StringBuilder();
        for (int i = 1; i < classes.length(); i++) {
            if (classes.charAt(i) != classes.charAt(i - 1)) {
                kept.append(classes.charAt(i));
            }
        }
        String whole = letters.charAt(0) + kept.toString().replace("0", "");
        return whole.substring(0, Math.min(5, whole.length()));
    }

    private static char letterClass(char letter) {
        List<String> classes = List.of("bfpv", "cgjkqsxz", "dt", "l", "mn", "r");
        for (int i = 0; i < classes.size(); i++) {
            if (classes.get(i).indexOf(letter) >= 0) {
                return (char) ('1' + i);
            }
        }
        return '0';
    }

    static Set<String> pieces(String told) {
        Set<String> pieces = new HashSet<>();
        String padded = " " + plain(told) + " ";
        for (int i = 0; !plain(told).isEmpty() && i + 3 <= padded.length(); i++) {
            pieces.add(padded.substring(i, i + 3));
        }
        return pieces;
    }

    static int distance(String one, String other) {
        int[][] table = new int[one.length() + 1][other.length() + 1];
        for (int i = 0; i <= one.length(); i++) {
            for (int j = 0; j <= other.length(); j++) {
                if (i == 0 || j == 0) {
                    table[i][j] = i + j;
                } else {
                    int changed = table[i - 1][j - 1] + (one.charAt(i - 1) == other.charAt(j - 1) ? 0 : 1);
                    table[i][j] = Math.min(changed, 1 + Math.min(table[i - 1][j], table[i][j - 1]));
                }
            }
        }
        return table[one.length()][other.length()];
    }

    /** E, T, S, C and the likeness of two groups. */
    private int[] alike(int book, Set<Integer> left, Set<Integer> right) {
        int[] best = new int[5];
        for (Made one : lines(book, left, 0)) {
            for (Made other : lines(book, right, 0)) {
                String a = plain(one.text);
                String b = plain(other.text);
                if (!a.isEmpty() && !b.isEmpty()) {
                    best[0] = Math.max(best[0], 1000 - 1000 * distance(a, b) / Math.max(a.length(), b.length()));
                }
                Set<String> both = pieces(a);
                both.retainAll(pieces(b));
                int count = pieces(a).size() + pieces(b).size();
                best[1] = Math.max(best[1], count == 0 ? 0 : 2000 * both.size() / count);
                best[2] = Math.max(best[2], !sound(a).isEmpty() && sound(a).equals(sound(b)) ? 1000 : 0);
            }
        }
        for (Made one : lines(book, left, 1)) {
            for (Made other : lines(book, right, 1)) {
                String a = call(one.text);
                best[3] = Math.max(best[3], !a.isEmpty() && a.equals(call(other.text)) ? 1000 : 0);
            }
        }
        best[4] = (4 * best[0] + 2 * best[1] + 2 * best[2] + 2 * best[3]) / 10;
        return best;
    }

    /** For all pairs of groups the lesser one, the other one, the likeness, what forbids, 1 if something is common. */
    private List<int[]> pairs(int book) {
        List<TreeSet<Integer>> groups = new ArrayList<>(joined(book, new HashSet<>()).values());
        List<int[]> pairs = new ArrayList<>();
        for (int i = 0; i < groups.size(); i++) {
            for (int j = i + 1; j < groups.size(); j++) {
                TreeSet<Integer> left = groups.get(i);
                TreeSet<Integer> right = groups.get(j);
                int[] alike = alike(book, left, right);
                int common = alike[1] > 0 || alike[2] > 0 || alike[3] > 0 ? 1 : 0;
                pairs.add(new int[] {left.first(), right.first(), alike[4], forbidding(book, left, right), common});
            }
        }
        return pairs;
    }
}
