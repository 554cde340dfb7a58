/** Promises 44 to 48: books as wholes. */
public final class WholesTest {
    private static final Checks CHECKS = new Checks("WholesTest");

    public static void main(String[] args) {
        agreeing();
        digesting();
        checking();
        shares();
        throwsChangeNothing();
        CHECKS.end();
    }

    /** Promise 44. */
    private static void agreeing() {
        KindredBooks books = new KindredBooks();
        CHECKS.isTrue("empty books agree", books.agree(0, 2));
        books.entry(0);
        CHECKS.isFalse("0 and 1 agree", books.agree(0, 1));
        CHECKS.isFalse("1 and 0 agree", books.agree(1, 0));
        CHECKS.isTrue("1 and 2 agree", books.agree(1, 2));
        CHECKS.isTrue("0 and 0 agree", books.agree(0, 0));
        books.entry(1);
        CHECKS.isFalse("as many, but others", books.agree(0, 1));
        books.hear(0, 1);
        books.hear(1, 0);
        CHECKS.isTrue("behind hearing", books.agree(0, 1));
        CHECKS.throwsA("no such one", Checks.INDEX, () -> books.agree(3, 0));
        CHECKS.throwsA("no such other", Checks.INDEX, () -> books.agree(0, -1));
    }

    /** Promise 45. */
    private static void digesting() {
        KindredBooks books = new KindredBooks();
        CHECKS.same("of nothing", books.digest(0), 7);
        int one = books.entry(0);
        int two = books.entry(0);
        int note = Checks.line(books, 0, one, KindredBooks.NOTE, "x");
        int name = Checks.line(books, 0, one, KindredBooks.NAME, "Ann");
        int more = Checks.line(books, 0, one, KindredBooks.NOTE, "y");
        int day = Checks.line(books, 0, two, KindredBooks.DAY, "2000-01-01");
        long due = 7;
        for (int next : new int[] {one, name, note, more, two, day}) {
            due = due * 31 + next;
        }
        CHECKS.same("of two groups", books.digest(0), due);
        books.join(0, two, one);
        due = 7;
        for (int next : new int[] {one, name, day, note, more}) {
            due = due * 31 + next;
        }
        CHECKS.same("of one group", books.digest(0), due);
        for (int i = 0; i < 30; i++) {
            due = due * 31 + books.entry(0);
        }
        CHECKS.same("modulo 2^64", books.digest(0), due);
        CHECKS.same("of the others", books.digest(1), 7);
        CHECKS.throwsA("of no book", Checks.INDEX, () -> books.digest(3));
    }

    /** Promise 46. */
    private static void checking() {
        KindredBooks books = new KindredBooks();
        CHECKS.same("errors of nothing", books.errors(0), 0);
        for (int i = 0; i < 12; i++) {
            Checks.named(books, 0, i % 2 == 0 ? "Ann" + i : "Bob");
        }
        for (int i = 0; i < 10; i += 2) {
            books.join(0, 2 * i + 2, 2 * i);
            books.never(0, 2 * i, 2 * i + 4 > 22 ? 0 : 2 * i + 4);
        }
        String before = Checks.state(books);
        for (int book = 0; book < 3; book++) {
            CHECKS.same("errors", books.errors(book), 0);
        }
        CHECKS.same("errors() changes nothing", Checks.state(books), before);
        books.hear(2, 0);
        CHECKS.same("errors behind hearing", books.errors(2), 0);
        for (int i = 20; i > 2; i -= 2) {
            books.join(1, books.entry(1), books.entry(1));
        }
        for (int i = books.changes() - 3; i > 40; i -= 3) {
            books.join(1, i, i - 2);
        }
        CHECKS.isTrue("long groups", books.groups(1) < 9);
        CHECKS.same("errors of long groups", books.errors(1), 0);
        books.hear(0, 1);
        books.hear(1, 0);
        CHECKS.same("the digest behind hearing", books.digest(1), books.digest(0));
        CHECKS.throwsA("errors of no book", Checks.INDEX, () -> books.errors(3));
        CHECKS.throwsA("errors of a book below", Checks.INDEX, () -> books.errors(-1));
    }

    private static void isShare(String what, double answer, double due) {
        CHECKS.isTrue(what + ": " + answer + " for " + due, answer == due);
    }

    /** Promises 47 and 48. */
    private static void shares() {
        KindredBooks books = new KindredBooks();
        isShare("meanLines of nothing", books.meanLines(0), 0.0);
        isShare("countShare of nothing", books.countShare(0), 0.0f);
        int one = books.entry(0);
        int two = books.entry(0);
        int three = books.entry(0);
        isShare("meanLines without lines", books.meanLines(0), 0.0);
        Checks.line(books, 0, one, KindredBooks.NOTE, "x");
        Checks.line(books, 0, one, KindredBooks.NOTE, "x");
        int line = Checks.line(books, 0, two, KindredBooks.NAME, "x");
        Checks.line(books, 0, three, KindredBooks.WAY, "x");
        isShare("meanLines", books.meanLines(0), 4.0 / 3.0);
        isShare("countShare", books.countShare(0), 1.0f);
        books.back(0, line);
        isShare("meanLines without a line", books.meanLines(0), 3.0 / 3.0);
        isShare("countShare without a line", books.countShare(0), 7f / 8f);
        books.gone(0, three);
        isShare("meanLines without an entry", books.meanLines(0), 2.0 / 2.0);
        isShare("countShare without an entry", books.countShare(0), 8f / 9f);
        books.undo(0);
        books.back(0, three);
        isShare("countShare behind more", books.countShare(0), 8f / 11f);
        books.gone(0, one);
        books.gone(0, two);
        isShare("meanLines without entries", books.meanLines(0), 0.0);
        isShare("of another book", books.countShare(1), 0.0f);
        CHECKS.throwsA("meanLines of no book", Checks.INDEX, () -> books.meanLines(3));
        CHECKS.throwsA("meanLines of a book below", Checks.INDEX, () -> books.meanLines(-1));
        CHECKS.throwsA("countShare of no book", Checks.INDEX, () -> books.countShare(3));
        CHECKS.throwsA("countShare of a book below", Checks.INDEX, () -> books.countShare(-1));
    }

    /** Calls with wrong arguments, one behind the other, leave all as it is. */
    private static void throwsChangeNothing() {
        KindredBooks books = new KindredBooks();
        int one = Checks.named(books, 0, "Ann");
        int other = Checks.named(books, 0, "Ann");
        Checks.line(books, 0, one, KindredBooks.DAY, "2000-01-01");
        books.suggest(0, 500);
        books.yearly(0, 2001, 1, 1, 0);
        Checks.type(books, "Ann");
        books.search(0, KindredBooks.PART);
        books.write(1, 0);
        String before = Checks.state(books);
        Checks.type(books, "a\u0001");
        int[] edges = {-1, 3, 5, 250, Integer.MAX_VALUE, Integer.MIN_VALUE};
        for (int edge : edges) {
            Checks.outcome(() -> books.setCountry(edge < 1 ? edge : 1000));
            Checks.outcome(() -> books.line(0, one, edge == 3 ? 5 : edge));
            Checks.outcome(() -> books.line(0, edge, 0));
            Checks.outcome(() -> books.line(edge, one, 0));
            Checks.outcome(() -> books.line(0, one, 0));
            Checks.outcome(() -> books.join(0, one, edge));
            Checks.outcome(() -> books.never(0, edge, other));
            Checks.outcome(() -> books.member(edge, one, other));
            Checks.outcome(() -> books.gone(0, edge == 5 ? 6 : edge));
            Checks.outcome(() -> books.back(0, edge < 250 && edge > 0 ? 5 : edge));
            Checks.outcome(() -> books.undo(edge));
            Checks.outcome(() -> books.hear(0, edge));
            Checks.outcome(() -> books.hear(edge, 0));
            Checks.outcome(() -> books.suggest(0, edge));
            Checks.outcome(() -> books.search(0, edge));
            Checks.outcome(() -> books.yearly(0, edge, 2, 30, edge));
            Checks.outcome(() -> books.write(0, edge == 3 ? 4 : edge));
            Checks.outcome(() -> books.readIn(0));
        }
        CHECKS.same("the text", books.clearText(), 2);
        books.back(0, 4);
        CHECKS.same("but this back()", books.changes(), 6);
        CHECKS.same("the suggestion", books.suggested(0, 2), 800);
        CHECKS.same("the find", books.found(0, false), one);
        CHECKS.same("the page", books.pageAt(2), 'n');
        CHECKS.same("the yearly day", books.yearlyAt(0, 1), 0);
        CHECKS.isTrue("what it was", before.startsWith("3 5 5 "));
    }
}
