import java.lang.reflect.InvocationTargetException;
import java.lang.reflect.Method;
import java.util.ArrayList;
import java.util.HashMap;
import java.util.List;
import java.util.Map;

/** Long runs of calls, the same on the class and on the model: each answer must be the same. */
public final class ModelTest {
    /** The calls with the kinds of their arguments, and how often each comes. */
    private static final String[] CALLS = {
        "entry B 8", "join BEE 14", "never BEE 5", "member BEE 6", "gone BE 3", "back BC 6", "undo B 4", "hear BB 6",
        "changes - 1", "change CW 4", "known B 1", "counts BC 3", "stands BC 3", "holds BC 3", "groups B 2",
        "groupAt BI 2", "groupOf BE 3", "sizeOf BE 3", "path BEEI 6", "forbids BEE 3", "shown BEK 3", "shownAt BEKI 4",
        "values BEK 3", "write CF 5", "pageAt P 5", "likeness BEE 4", "suggest BR 2", "suggested IW 4", "looked B 1",
        "search BH 4", "found IT 4", "members BE 3", "memberAt BEI 3", "yearly BYMDN 4", "yearlyAt IW 4",
        "errorKind - 1", "errorPlace - 1", "readIn B 1", "agree BB 1", "digest B 3", "errors B 1", "meanLines B 1",
        "countShare B 1", "setCountry O 1", "clearText - 1", "line BEK 3", "type L 1",
    };
    private static final String[] NAMES = {
        "Ann Lee", "ann-LEE", "Anne Lee", "Lee, Ann", "Bob", "Bop", "Pob", "Robert", "Rupert", "---", "12 34", "a", "ab",
        "  X  ", "O'Neil", "McDonald", "Mac Donald", "Pfister", "Tymczak", "Jackson", "Honeyman", "Ashcraft", "...",
        "Hans-Peter von der Bruecke 3rd, of York", "aaaa aaaa aaaa aaaa aaaa aaaa aaaa aaaa", "Z9Z", "s s s", "bbb",
    };
    private static final String[] WAYS = {
        "030 12", "0049 30 12", "+49 30 12", "(030) 12", "+4930-12", "00", "0", "+", "++1", "1+1", "(+49) 30/12", "000",
        "bob(at)x", "Bob at X", "BOB AT X", "12", "(0) 12", "- / -", "+0049 30 12", "1234567890123456789012345678901234567890",
    };
    private static final String[] PLACES = {"York", "york!", "New York", "new  york", "Ulm 7", "--"};
    private static final String[] DAYS = {
        "2000-02-29", "1999-02-28", "1999-03-01", "2023-02-29", "2024-02-29", "0001-01-01", "9999-12-31", "0000-01-01",
        "1900-02-29", "2000-12-31", "2000-13-01", "2000-00-10", "2000-04-31", "2000-1-01", "2000-01-011", "2000/01/01",
    };
    private static final String[] NOTES = {"x", "X", " x", "y", "a note", "~", " "};

    private final Checks checks;
    private final int seed;
    private long random;
    private final KindredBooks books = new KindredBooks();
    private final Model model = new Model();
    private final StringBuilder told = new StringBuilder();
    private final Map<String, Method> ofBooks = methods(KindredBooks.class);
    private final Map<String, Method> ofModel = methods(Model.class);
    private int calls;
    private int lastBook;
    private boolean isWrong;

    private ModelTest(Checks checks, int seed) {
        this.checks = checks;
        this.seed = seed;
        this.random = seed * 7919L + 12345;
    }

    public static void main(String[] args) {
        Checks checks = new Checks("ModelTest");
        int first = args.length > 1 ? Integer.parseInt(args[0]) : 1;
        int last = args.length > 1 ? Integer.parseInt(args[1]) : 240;
        for (int seed = first; seed <= last; seed++) {
            new ModelTest(checks, seed).run();
        }
        checks.end();
    }

    private static Map<String, Method> methods(Class<?> type) {
        Map<String, Method> methods = new HashMap<>();
        for (Method method : type.getDeclaredMethods()) {
            methods.put(method.getName(), method);
        }
        return methods;
    }

    private void run() {
        // a start with a few entries, so that most calls find something
        int entries = pick(8) + 1;
        for (int i = 0; i < entries; i++) {
            call("entry", pick(seed % 3 + 1));
        }
        while (calls < 500 && !isWrong) {
            if (seed % 8 == 0) {
                // these runs come to 250 changes
                call("entry", pick(3));
            }
            int chance = pick(seed % 8 == 1 ? 36 : 100);
            if (chance < 22) {
                makeLine();
            } else if (chance < 27) {
                makeSearch();
            } else if (chance < 30) {
                makePaper();
            } else if (chance < 33) {
                hearAll();
            } else if (chance < 36) {
                lookThrough();
            } else if (chance < 42) {
                tellEntry();
            } else if (chance < 45) {
                writeChange();
            } else {
                callOne();
            }
        }
        for (int book = 0; book < 3; book++) {
            call("digest", book);
        }
    }

    private int pick(int bound) {
        random = random * 6364136223846793005L + 1442695040888963407L;
        return (int) ((random >>> 33) % bound);
    }

    private String pickText(int kind) {
        String[][] all = {NAMES, WAYS, PLACES, DAYS, NOTES};
        if (kind == KindredBooks.DAY && pick(3) > 0) {
            return String.format("%04d-%02d-%02d", 1990 + pick(20), 1 + pick(4), 1 + pick(30));
        }
        if (pick(3) > 0) {
            return all[kind][pick(all[kind].length)];
        }
        StringBuilder text = new StringBuilder();
        int length = 1 + pick(pick(10) == 0 ? 42 : 8);
        String signs = kind == KindredBooks.WAY ? "0012 3+-/()" : "abBcdlmrst aA-1";
        for (int i = 0; i < length; i++) {
            text.append(pick(40) == 0 ? (char) (1 + pick(255)) : signs.charAt(pick(signs.length())));
        }
        return text.toString();
    }

    private void typeText(String text) {
        if (pick(12) > 0) {
            call("clearText");
        }
        for (int i = 0; i < text.length(); i += 8) {
            long packed = 0;
            for (int j = i; j < Math.min(i + 8, text.length()); j++) {
                packed = (packed << 8) | text.charAt(j);
            }
            call("type", packed);
        }
    }

    private void makeLine() {
        int[] kinds = {0, 0, 0, 1, 1, 2, 3, 3, 4};
        int kind = kinds[pick(kinds.length)];
        typeText(pickText(kind));
        call("line", pickBook(), pickEntry(), kind);
    }

    private void makeSearch() {
        String text = pickText(KindredBooks.NAME);
        int start = pick(text.length());
        typeText(text.substring(start, start + 1 + pick(Math.min(9, text.length() - start))));
        int how = pick(3);
        Object found = call("search", pickBook(), how);
        for (int i = 0; found instanceof Integer && i < (Integer) found && i < 4; i++) {
            call("found", i, true);
            call("found", i, false);
        }
    }

    private void makePaper() {
        StringBuilder paper = new StringBuilder();
        int cards = pick(4);
        for (int i = 0; i < cards; i++) {
            int lines = 1 + pick(3);
            for (int j = 0; j < lines; j++) {
                int kind = pick(5);
                String text = kind == KindredBooks.DAY ? "2001-02-0" + (1 + pick(3)) : pickText(kind);
                paper.append(j > 0 ? ";" : "").append("nwpdt".charAt(kind)).append(':');
                paper.append(pick(8) > 0 ? text.replaceAll("[;.:]", "") : text);
            }
            paper.append('.');
        }
        if (pick(4) == 0 && paper.length() > 0) {
            paper.setCharAt(pick(paper.length()), ";:.nwpdt x".charAt(pick(10)));
        }
        if (pick(6) == 0 && paper.length() > 0) {
            paper.setLength(pick(paper.length()));
        }
        typeText(paper.toString());
        call("errorKind");
        call("errorPlace");
        call("readIn", pickBook());
    }

    private void hearAll() {
        int from = pick(3);
        for (int book = 0; book < 3; book++) {
            call("hear", book, from);
            call("digest", book);
        }
    }

    private void lookThrough() {
        int book = pickBook();
        Object found;
        if (pick(2) == 0) {
            found = call("suggest", book, 401 + pick(300));
            for (int i = 0; found instanceof Integer && i < (Integer) found && i < 4; i++) {
                call("suggested", i, 0);
                call("suggested", i, 1);
                call("suggested", i, 2);
            }
        } else {
            found = call("yearly", book, 1985 + pick(30), 1 + pick(4), 1 + pick(28), pick(366));
            for (int i = 0; found instanceof Integer && i < (Integer) found && i < 4; i++) {
                call("yearlyAt", i, 0);
                call("yearlyAt", i, 1);
                call("yearlyAt", i, 2);
            }
        }
    }

    private void callOne() {
        int weights = 0;
        for (String one : CALLS) {
            weights += Integer.parseInt(one.split(" ")[2]);
        }
        int place = pick(weights);
        for (String one : CALLS) {
            String[] parts = one.split(" ");
            place -= Integer.parseInt(parts[2]);
            if (place < 0) {
                List<Object> arguments = new ArrayList<>();
                for (char letter : parts[1].replace("-", "").toCharArray()) {
                    arguments.add(pickArgument(letter));
                }
                call(parts[0], arguments.toArray());
                return;
            }
        }
    }

    private Object pickArgument(char letter) {
        switch (letter) {
            case 'B':
                return pickBook();
            case 'E':
                return pickEntry();
            case 'C':
                return pick(25) == 0 ? pick(400) - 100 : pick(model.changes() + 1);
            case 'W':
                return pick(9) - 1;
            case 'I':
                return pick(6) == 0 ? pick(2) == 0 ? Integer.MIN_VALUE : Integer.MAX_VALUE : pick(5) - 1;
            case 'K':
                return pick(20) == 0 ? pick(2) * 6 - 1 : pick(5);
            case 'F':
                return pick(20) == 0 ? pick(2) * 5 - 1 : pick(4);
            case 'P':
                return pick(12) - 1;
            case 'R':
                return pick(8) == 0 ? 400 + pick(2) * 601 : 401 + pick(600);
            case 'H':
                return pick(15) == 0 ? pick(2) * 4 - 1 : pick(3);
            case 'T':
                return pick(2) == 0;
            case 'Y':
                return pick(15) == 0 ? pick(2) * 9999 : pick(6) == 0 ? 1 + pick(9998) : 1995 + pick(12);
            case 'M':
                return pick(15) == 0 ? pick(2) * 13 : 1 + pick(12);
            case 'D':
                return pick(15) == 0 ? pick(2) * 31 : 1 + pick(29);
            case 'N':
                return pick(15) == 0 ? pick(2) * 367 - 1 : pick(366);
            case 'O':
                return pick(4) == 0 ? pick(2) * 1000 : 1 + pick(pick(3) == 0 ? 999 : 50);
            case 'L':
                return random;
            default:
                throw new AssertionError("no such argument: " + letter);
        }
    }

    private int pickBook() {
        lastBook = pick(seed % 3 + 1);
        return pick(60) == 0 ? pick(2) * 4 - 1 : lastBook;
    }

    /** Mostly an entry that is live in the book that was picked last. */
    private int pickEntry() {
        if (pick(20) == 0) {
            return pick(2) == 0 ? pick(300) - 20 : pick(model.changes());
        }
        int change = pick(model.changes());
        for (int i = 0; i < 60; i++) {
            if (model.change(change, 0) == KindredBooks.ENTRY && model.stands(lastBook, change)) {
                return change;
            }
            change = pick(model.changes());
        }
        return change;
    }

    private void tellEntry() {
        int book = pickBook();
        int entry = pickEntry();
        int other = pickEntry();
        if (pick(2) == 0) {
            tellRow("members", "memberAt", book, entry);
        } else {
            tellRow("shown", "shownAt", book, entry, pick(5));
        }
        Object length = call("path", book, entry, other, -1);
        for (int i = 0; length instanceof Integer && i <= (Integer) length && i < 6; i++) {
            call("path", book, entry, other, i);
        }
        call("likeness", book, entry, other);
        call("forbids", book, entry, other);
    }

    /** Calls what counts a row, and then what tells each place of it, and one more. */
    private void tellRow(String counts, String tells, Object... arguments) {
        Object length = call(counts, arguments);
        List<Object> longer = new ArrayList<>(List.of(arguments));
        longer.add(0);
        for (int i = 0; length instanceof Integer && i <= (Integer) length && i < 6; i++) {
            longer.set(arguments.length, i);
            call(tells, longer.toArray());
        }
    }

    private void writeChange() {
        Object length = call("write", pick(model.changes()), pick(4));
        for (int i = 0; length instanceof Integer && i <= (Integer) length && i < 9; i++) {
            call("pageAt", i);
        }
        call("pageAt", pick(44));
    }

    private Object call(String name, Object... arguments) {
        if (calls >= 509 && !name.equals("digest") || isWrong) {
            return null;
        }
        calls++;
        Object answer = run(ofBooks.get(name), books, arguments);
        Object due = run(ofModel.get(name), model, arguments);
        told.append(name).append(List.of(arguments)).append(' ').append(due).append('\n');
        if (!answer.equals(due)) {
            isWrong = true;
            checks.tell("seed " + seed + ", call " + calls + ", " + name + List.of(arguments) + " answered "
                + answer + ", due is " + due);
            if (System.getProperty("told") != null) {
                System.out.println(told);
            }
        }
        return due;
    }

    private static Object run(Method method, Object on, Object[] arguments) {
        try {
            return method.invoke(on, arguments);
        } catch (InvocationTargetException e) {
            return e.getCause().getClass().getSimpleName();
        } catch (IllegalAccessException e) {
            throw new AssertionError(e);
        }
    }
}
