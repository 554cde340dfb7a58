/** Promises 41 to 43: papers. */
public final class PaperTest {
    private static final Checks CHECKS = new Checks("PaperTest");

    public static void main(String[] args) {
        errorsOfPapers();
        tooManyChanges();
        reading();
        longPapers();
        knownCards();
        knownInOneBook();
        behindKnownCards();
        wrongCalls();
        CHECKS.end();
    }

    private static void hasError(String text, int kind, int place) {
        KindredBooks books = new KindredBooks();
        Checks.type(books, text);
        CHECKS.same("errorKind of \"" + text + "\"", books.errorKind(), kind);
        CHECKS.same("errorPlace of \"" + text + "\"", books.errorPlace(), place);
        String due = kind == 0 ? null : Checks.STATE;
        if (due != null) {
            CHECKS.throwsA("readIn of \"" + text + "\"", due, () -> books.readIn(0));
            CHECKS.same("no change", books.changes(), 0);
        } else {
            books.readIn(0);
        }
        CHECKS.same("the text of \"" + text + "\"", books.clearText(), kind == 0 ? 0 : text.length());
    }

    /** Promises 41 and 42. */
    private static void errorsOfPapers() {
        String forty = "1234567890123456789012345678901234567890";
        hasError("", 0, -1);
        hasError("n:a.", 0, -1);
        hasError("n:a;w:b;p:c;d:2000-02-29;t:d.t:e.", 0, -1);
        hasError("x:a.", 1, 0);
        hasError("N:a.", 1, 0);
        hasError(" n:a.", 1, 0);
        hasError(".", 1, 0);
        hasError(";", 1, 0);
        hasError(":", 1, 0);
        hasError("n", 1, 1);
        hasError("na", 1, 1);
        hasError("n.", 1, 1);
        hasError("n:", 1, 2);
        hasError("n:;w:1.", 2, 2);
        hasError("n:.", 2, 2);
        hasError("n::", 2, 2);
        hasError("n:a", 1, 3);
        hasError("n:a:", 1, 3);
        hasError("n:a:b.", 1, 3);
        hasError("n:a;", 1, 4);
        hasError("n:a;.", 1, 4);
        hasError("n:a;;", 1, 4);
        hasError("n:a.;", 1, 4);
        hasError("n:a.n", 1, 5);
        hasError("n:a.n:", 1, 6);
        hasError("n:a. n:b.", 1, 4);
        hasError("n:a;x:b.", 1, 4);
        hasError("n:a;nb.", 1, 5);
        hasError("n:" + forty + ".", 0, -1);
        hasError("n:" + forty + "1.", 2, 2);
        hasError("n:" + forty + "1", 2, 2);
        hasError("n:" + forty, 1, 42);
        hasError("n:a\u00e9.", 2, 2);
        hasError("n:a\u001f.", 2, 2);
        hasError("n:a\u007f;t:b.", 2, 2);
        hasError("d:2001-02-29.", 2, 2);
        hasError("n:a;d:2001-02-2.", 2, 6);
        hasError("n:a;d:20", 2, 6);
        hasError("d:2001-02-28", 1, 12);
        hasError("n:a.d:2001-02-28:", 1, 16);
        hasError("n:a.d:2001-02-28.x", 1, 17);
        hasError("n:a;x:b.d:1.", 1, 4);
        hasError("n:a;d:1.x", 2, 6);
        hasError("w:1,2 (3)/+-!.", 0, -1);
    }

    private static void tooManyChanges() {
        KindredBooks books = new KindredBooks();
        Checks.type(books, "n:a;n:b.n:c.");
        books.readIn(1);
        for (int i = 0; i < 240; i++) {
            books.entry(0);
        }
        CHECKS.same("changes", books.changes(), 245);
        Checks.type(books, "n:a;n:b.n:c.");
        CHECKS.same("just 250", books.errorKind(), 0);
        books.entry(0);
        CHECKS.same("251, if no card was known", books.errorKind(), 3);
        CHECKS.same("at the length", books.errorPlace(), 12);
        CHECKS.throwsA("readIn", Checks.STATE, () -> books.readIn(1));
        books.clearText();
        CHECKS.same("place of no error, asked for first", books.errorPlace(), -1);
        Checks.type(books, "n:a;n:b.n:c.");
        CHECKS.same("place of the error, asked for first", books.errorPlace(), 12);
        Checks.type(books, "x");
        CHECKS.same("an error of the text goes ahead", books.errorKind(), 1);
        CHECKS.same("its place", books.errorPlace(), 12);
        books.clearText();
        Checks.fill(books);
        CHECKS.same("no card", books.errorKind(), 0);
        CHECKS.same("readIn of nothing", books.readIn(0), 0);
        Checks.type(books, "n:a.");
        CHECKS.same("a card", books.errorKind(), 3);
    }

    private static int read(KindredBooks books, int book, String text) {
        books.clearText();
        Checks.type(books, text);
        int made = books.readIn(book);
        CHECKS.same("the text is emptied", books.clearText(), 0);
        return made;
    }

    /** Promise 43. */
    private static void reading() {
        KindredBooks books = new KindredBooks();
        CHECKS.same("two cards", read(books, 1, "n:Ann Lee;d:2000-01-02;w:030 1;p:York;t:x.t:y."), 2);
        int[][] due = {{KindredBooks.ENTRY, -1, -1}, {KindredBooks.LINE, 0, KindredBooks.NAME},
            {KindredBooks.LINE, 0, KindredBooks.DAY}, {KindredBooks.LINE, 0, KindredBooks.WAY},
            {KindredBooks.LINE, 0, KindredBooks.PLACE}, {KindredBooks.LINE, 0, KindredBooks.NOTE},
            {KindredBooks.ENTRY, -1, -1}, {KindredBooks.LINE, 6, KindredBooks.NOTE}};
        CHECKS.same("changes", books.changes(), due.length);
        for (int i = 0; i < due.length; i++) {
            CHECKS.same("kind of " + i, books.change(i, 0), due[i][0]);
            CHECKS.same("hand of " + i, books.change(i, 1), 1);
            CHECKS.same("count of " + i, books.change(i, 2), i + 1);
            CHECKS.same("entry of " + i, books.change(i, 3), due[i][1]);
            CHECKS.same("kind of line of " + i, books.change(i, 4), due[i][2]);
        }
        CHECKS.same("the name", Checks.form(books, 1, 0), "Ann Lee");
        CHECKS.same("the way", Checks.form(books, 3, 2), "+49301");
        CHECKS.same("the last note", Checks.form(books, 7, 0), "y");
        CHECKS.same("no cards", read(books, 1, ""), 0);
        CHECKS.same("stays", books.changes(), due.length);
    }

    /** Papers with as many lines and as many cards as 400 bytes have. */
    private static void longPapers() {
        StringBuilder lines = new StringBuilder();
        StringBuilder cards = new StringBuilder();
        for (int i = 0; i < 100; i++) {
            lines.append("t:").append((char) ('A' + i % 26)).append(i < 99 ? ';' : '.');
            cards.append("t:").append((char) ('A' + i % 26)).append('.');
        }
        KindredBooks books = new KindredBooks();
        CHECKS.same("a card of 100 lines", read(books, 0, lines.toString()), 1);
        CHECKS.same("an entry and 100 lines", books.changes(), 101);
        CHECKS.same("the last one", Checks.form(books, 100, 0), "V");
        CHECKS.same("the same one again", read(books, 0, lines.toString()), 0);
        hasError(lines.substring(0, 399) + ";", 1, 400);
        hasError(lines.substring(0, 396) + "t:a:", 1, 399);
        hasError(lines.substring(0, 396) + "t:ab", 1, 400);
        KindredBooks others = new KindredBooks();
        CHECKS.same("100 cards", read(others, 0, cards.toString()), 26);
        CHECKS.same("26 entries and lines", others.changes(), 52);
        Checks.type(others, cards.toString());
        CHECKS.same("252 changes, if no card was known", others.errorKind(), 3);
        others.clearText();
        CHECKS.same("250 changes, if no card was known", read(others, 0, cards.substring(4)), 0);
    }

    private static void knownCards() {
        KindredBooks books = new KindredBooks();
        read(books, 0, "n:Ann Lee;w:030 1;n:Bob;n:bob.");
        CHECKS.same("the same one", read(books, 0, "n:Ann Lee;w:030 1;n:Bob;n:bob."), 0);
        CHECKS.same("like values in another order", read(books, 0, "n:BOB;w:+49301;n:-bob;n:ann/lee."), 0);
        CHECKS.same("one less often, one more", read(books, 0, "n:Ann Lee;w:030 1;n:Ann-Lee;n:bob."), 1);
        CHECKS.same("one line less", read(books, 0, "n:Ann Lee;w:030 1;n:Bob."), 1);
        CHECKS.same("one line more", read(books, 0, "n:Ann Lee;w:030 1;n:Bob;n:bob;n:bob."), 1);
        CHECKS.same("another kind", read(books, 0, "n:Ann Lee;w:030 1;n:Bob;p:bob."), 1);
        CHECKS.same("twice in a paper", read(books, 0, "t:x.t:x.t:X."), 2);
        books.setCountry(1);
        CHECKS.same("elsewhere the way is another one", read(books, 0, "n:Ann Lee;w:+49301;n:Bob;n:bob."), 1);
        books.setCountry(49);
        int before = books.changes();
        books.gone(0, 0);
        books.gone(0, before - 5);
        CHECKS.same("of what is gone", read(books, 0, "n:Ann Lee;w:030 1;n:Bob;n:bob."), 1);
        int entry = books.changes() - 5;
        books.back(0, entry + 4);
        CHECKS.same("of a line that is taken back", read(books, 0, "n:Ann Lee;w:030 1;n:Bob;n:bob."), 1);
        CHECKS.same("of the lines that are left", read(books, 0, "n:Bob;n:Ann Lee;w:030 1."), 0);
    }

    /** What was read for a card that is known leaves nothing in the lines that are made then. */
    private static void behindKnownCards() {
        KindredBooks books = new KindredBooks();
        read(books, 0, "n:Robert of York;w:0049 30 12;t:a note.");
        CHECKS.same("the same one", read(books, 0, "n:Robert of York;w:0049 30 12;t:a note."), 0);
        CHECKS.same("a shorter one", read(books, 0, "n:Zed;w:7;t:b."), 1);
        String[][] due = {{"Zed", "zed", "zed", "z3"}, {"7", "7", "+497", ""}, {"b", "b", "b", "b"}};
        for (int i = 0; i < due.length; i++) {
            for (int form = 0; form < 4; form++) {
                CHECKS.same("line " + i + " in form " + form, Checks.form(books, 5 + i, form), due[i][form]);
            }
        }
        int other = Checks.named(books, 0, "Zek");
        CHECKS.same("pieces of the shorter one", books.likeness(0, 4, other), (4 * 667 + 2 * (2000 / 6)) / 10);
        CHECKS.same("and of the longer one", books.likeness(0, 0, 4), 4 * (1000 - 13000 / 14) / 10);
    }

    private static void knownInOneBook() {
        KindredBooks books = new KindredBooks();
        CHECKS.same("here", read(books, 0, "n:Ann.n:Bob."), 2);
        CHECKS.same("there", read(books, 1, "n:Ann."), 1);
        books.hear(2, 0);
        CHECKS.same("heard of", read(books, 2, "n:Bob.n:Cid."), 1);
        // an entry by itself is meant, not its group
        books.join(0, 0, 2);
        CHECKS.same("the lines of a group", read(books, 0, "n:Ann;n:Bob."), 1);
    }

    private static void wrongCalls() {
        KindredBooks books = new KindredBooks();
        Checks.type(books, "n:a.n:");
        CHECKS.throwsA("the book first", Checks.INDEX, () -> books.readIn(3));
        CHECKS.throwsA("a book below", Checks.INDEX, () -> books.readIn(-1));
        CHECKS.throwsA("then the text", Checks.STATE, () -> books.readIn(0));
        CHECKS.same("nothing is made", books.changes(), 0);
        CHECKS.same("the text stays", books.clearText(), 6);
    }
}
