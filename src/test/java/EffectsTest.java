import java.util.ArrayList;
import java.util.LinkedHashMap;
import java.util.List;
import java.util.Map;
import java.util.TreeSet;

/**
 * What each call changes, and that it changes nothing else: "Nothing is promised beyond the answers and state changes
 * described above". Every call of the face is made with right arguments; all that can be seen of the object is looked
 * at ahead of it and behind it, and so is another object.
 */
public final class EffectsTest {
    private static final Checks CHECKS = new Checks("EffectsTest");
    /** The changes of the scene, which are looked at one by one. */
    private static final int SEEN = 12;

    private static KindredBooks books;
    private static int one;
    private static int other;
    private static int name;
    private static int join;

    public static void main(String[] args) {
        textsAndCountry();
        making();
        hearing();
        rowsAndPage();
        telling();
        objectsApart();
        CHECKS.end();
    }

    /** A scene in which each call finds something, and each row of answers and the page have something. */
    private static KindredBooks makeScene() {
        KindredBooks made = new KindredBooks();
        one = made.entry(0);
        name = Checks.line(made, 0, one, KindredBooks.NAME, "Ann");
        other = Checks.named(made, 0, "Ann");
        Checks.line(made, 0, other, KindredBooks.WAY, "1");
        Checks.line(made, 0, one, KindredBooks.DAY, "2000-01-01");
        int third = made.entry(0);
        join = made.join(0, third, other);
        made.member(0, one, other);
        made.never(0, one, made.entry(0));
        made.entry(1);
        made.suggest(0, 500);
        Checks.type(made, "nn");
        made.search(0, KindredBooks.PART);
        made.yearly(0, 2001, 1, 1, 0);
        made.write(name, 2);
        made.clearText();
        Checks.type(made, "Bea");
        return made;
    }

    /** All that can be seen without changing it, part by part. */
    private static Map<String, String> look(KindredBooks of) {
        Map<String, String> parts = new LinkedHashMap<>();
        int country = of.setCountry(49);
        of.setCountry(country);
        parts.put("country", String.valueOf(country));
        parts.put("text", of.type(0) + " " + of.errorKind() + " " + of.errorPlace());
        parts.put("changes", String.valueOf(of.changes()));
        for (int book = 0; book < 3; book++) {
            StringBuilder told = new StringBuilder();
            told.append(of.known(book)).append(' ').append(of.digest(book)).append(' ').append(of.meanLines(book));
            told.append(' ').append(of.countShare(book)).append(' ');
            for (int change = 0; change < Math.min(of.changes(), SEEN); change++) {
                told.append(of.counts(book, change) ? '+' : '-');
            }
            parts.put("book " + book, told.toString());
        }
        List<String> page = new ArrayList<>();
        for (int i = 0; i < 4; i++) {
            int place = i;
            page.add(Checks.outcome(() -> of.pageAt(place)));
        }
        parts.put("page", page.toString());
        for (String row : new String[] {"suggested", "found", "yearly"}) {
            parts.put(row, lookRow(of, row));
        }
        return parts;
    }

    private static String lookRow(KindredBooks of, String row) {
        List<String> told = new ArrayList<>();
        for (int i = 0; i < 9; i++) {
            int place = i / 3;
            int what = i % 3;
            told.add(Checks.outcome(() -> row.equals("suggested") ? of.suggested(place, what)
                : row.equals("found") ? of.found(place, what > 0) : of.yearlyAt(place, what)));
        }
        return told.toString();
    }

    /** Makes a call in a new scene: just the parts that are named are to be others behind it. */
    private static void changes(String what, Checks.Call call, String... due) {
        books = makeScene();
        Map<String, String> before = look(books);
        String answer = Checks.outcome(call);
        CHECKS.isFalse(what + " throws " + answer, answer.endsWith("Exception"));
        Map<String, String> behind = look(books);
        TreeSet<String> changed = new TreeSet<>();
        for (String part : before.keySet()) {
            if (!before.get(part).equals(behind.get(part))) {
                changed.add(part);
            }
        }
        CHECKS.same("what " + what + " changes", changed.toString(), new TreeSet<>(List.of(due)).toString());
        if (!changed.contains("text")) {
            int note = books.line(0, other, KindredBooks.NOTE);
            CHECKS.same("the text behind " + what, Checks.form(books, note, 0), "Bea");
        }
    }

    /** Promises 2 to 4. */
    private static void textsAndCountry() {
        changes("type", () -> books.type('x'), "text");
        changes("type of nothing", () -> books.type(0));
        changes("clearText", () -> books.clearText(), "text");
        changes("setCountry", () -> books.setCountry(1), "country");
        changes("setCountry to what it is", () -> books.setCountry(49));
    }

    /** Promises 5 to 12, and 43. */
    private static void making() {
        changes("entry", () -> books.entry(0), "changes", "book 0");
        changes("entry of another book", () -> books.entry(2), "changes", "book 2");
        changes("line", () -> books.line(0, one, KindredBooks.NOTE), "changes", "book 0", "text");
        changes("join", () -> books.join(0, one, other), "changes", "book 0");
        changes("never", () -> books.never(0, one, other), "changes", "book 0");
        changes("member", () -> books.member(0, one, other), "changes", "book 0");
        changes("gone", () -> books.gone(0, one), "changes", "book 0");
        changes("back", () -> books.back(0, name), "changes", "book 0");
        changes("undo", () -> books.undo(0), "changes", "book 0");
        changes("undo of nothing", () -> books.undo(2));
        changes("readIn", () -> {
            books.clearText();
            Checks.type(books, "n:Bea;t:x.");
            return books.readIn(0);
        }, "changes", "book 0", "text");
        changes("readIn of a known card", () -> {
            books.clearText();
            Checks.type(books, "w:1;n:ann.");
            return books.readIn(0);
        }, "text");
    }

    /** Promise 13: only the book that hears. */
    private static void hearing() {
        changes("hear", () -> books.hear(1, 0), "book 1");
        changes("hear of one change", () -> books.hear(0, 1), "book 0");
        changes("hear of nothing", () -> books.hear(0, 2));
        changes("hear of itself", () -> books.hear(0, 0));
    }

    /** Promises 29, 32, 35 and 39: each its own row or the page. */
    private static void rowsAndPage() {
        changes("write", () -> books.write(name, 3), "page");
        changes("write of no line", () -> books.write(one, 0), "page");
        changes("suggest", () -> books.suggest(2, 401), "suggested");
        changes("suggest of the same", () -> books.suggest(0, 600));
        changes("search", () -> books.search(0, KindredBooks.BEGINS), "found");
        changes("yearly", () -> books.yearly(0, 2001, 6, 1, 20), "yearly");
        changes("yearly by another year", () -> books.yearly(0, 2002, 1, 1, 365), "yearly");
    }

    /** All other calls tell something and change nothing. */
    private static void telling() {
        changes("changes", () -> books.changes());
        changes("change", () -> books.change(name, 5));
        changes("known", () -> books.known(0));
        changes("counts", () -> books.counts(0, name));
        changes("stands", () -> books.stands(0, name));
        changes("holds", () -> books.holds(0, join));
        changes("groups", () -> books.groups(0));
        changes("groupAt", () -> books.groupAt(0, 1));
        changes("groupOf", () -> books.groupOf(0, other));
        changes("sizeOf", () -> books.sizeOf(0, other));
        changes("path", () -> books.path(0, other, other, 0));
        changes("path to another", () -> books.path(0, one, other, KindredBooks.NONE));
        changes("forbids", () -> books.forbids(0, one, other));
        changes("shown", () -> books.shown(0, one, KindredBooks.NAME));
        changes("shownAt", () -> books.shownAt(0, one, KindredBooks.NAME, 0));
        changes("values", () -> books.values(0, one, KindredBooks.NAME));
        changes("pageAt", () -> books.pageAt(0));
        changes("likeness", () -> books.likeness(0, one, other));
        changes("suggested", () -> books.suggested(0, 2));
        changes("looked", () -> books.looked(0));
        changes("found", () -> books.found(0, true));
        changes("members", () -> books.members(0, one));
        changes("memberAt", () -> books.memberAt(0, one, 0));
        changes("yearlyAt", () -> books.yearlyAt(0, 1));
        changes("errorKind", () -> books.errorKind());
        changes("errorPlace", () -> books.errorPlace());
        changes("agree", () -> books.agree(0, 1));
        changes("digest", () -> books.digest(0));
        changes("errors", () -> books.errors(0));
        changes("meanLines", () -> books.meanLines(0));
        changes("countShare", () -> books.countShare(0));
    }

    /** "Creates three books that know nothing, and an empty text and page": whatever other objects have. */
    private static void objectsApart() {
        KindredBooks first = makeScene();
        first.setCountry(7);
        String seen = look(first).toString();
        KindredBooks second = new KindredBooks();
        CHECKS.same("the country of a new object", second.setCountry(49), 49);
        CHECKS.same("its changes", second.changes(), 0);
        CHECKS.same("its text", second.clearText(), 0);
        CHECKS.throwsA("its page", Checks.INDEX, () -> second.pageAt(0));
        CHECKS.throwsA("its suggestions", Checks.INDEX, () -> second.suggested(0, 0));
        CHECKS.throwsA("its finds", Checks.INDEX, () -> second.found(0, true));
        CHECKS.throwsA("its yearly days", Checks.INDEX, () -> second.yearlyAt(0, 0));
        for (int book = 0; book < 3; book++) {
            CHECKS.same("what its books know", second.known(book), 0);
            CHECKS.same("its digests", second.digest(book), 7);
        }
        int entry = Checks.named(second, 0, "Zoe");
        second.setCountry(999);
        second.suggest(0, 401);
        second.search(1, second.type('Z') % 2);
        second.yearly(0, 1, 1, 1, 0);
        second.write(entry + 1, 1);
        second.hear(2, 0);
        second.gone(2, entry);
        CHECKS.same("the first object behind the calls of the second one", look(first).toString(), seen);
        int note = first.line(0, one, KindredBooks.NOTE);
        CHECKS.same("its text", Checks.form(first, note, 0), "Bea");
        CHECKS.same("the text of the second one", second.clearText(), 1);
    }
}
