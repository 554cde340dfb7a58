/** Promises 35 and 36: searches. */
public final class SearchTest {
    private static final Checks CHECKS = new Checks("SearchTest");

    public static void main(String[] args) {
        begins();
        parts();
        nears();
        groups();
        wrongCalls();
        findsStay();
        CHECKS.end();
    }

    /** Searches and compares the row of groups and ranks. */
    private static void finds(KindredBooks books, int how, String text, int... due) {
        books.clearText();
        Checks.type(books, text);
        String call = "search for \"" + text + "\", way " + how;
        CHECKS.same(call, books.search(0, how), due.length / 2);
        for (int i = 0; i < due.length / 2; i++) {
            CHECKS.same(call + ", group " + i, books.found(i, false), due[2 * i]);
            CHECKS.same(call + ", rank " + i, books.found(i, true), due[2 * i + 1]);
        }
        CHECKS.throwsA(call + ", behind it", Checks.INDEX, () -> books.found(due.length / 2, true));
        CHECKS.same("the text stays", books.clearText(), text.length());
    }

    private static void begins() {
        KindredBooks books = new KindredBooks();
        int annabel = Checks.named(books, 0, "Lee Annabel");
        int ann = Checks.named(books, 0, "ANN");
        int both = Checks.named(books, 0, "Annabella Anna");
        int hanna = Checks.named(books, 0, "Hanna");
        finds(books, KindredBooks.BEGINS, "Ann", ann, 0, both, 1, annabel, 4);
        finds(books, KindredBooks.BEGINS, "-annab-", annabel, 2, both, 4);
        finds(books, KindredBooks.BEGINS, "annabella", both, 0);
        finds(books, KindredBooks.BEGINS, "annabellas");
        finds(books, KindredBooks.BEGINS, "h", hanna, 4);
        // a word has no blank, so none begins with one
        finds(books, KindredBooks.BEGINS, "lee annabel");
    }

    private static void parts() {
        KindredBooks books = new KindredBooks();
        int annabel = Checks.named(books, 0, "Lee--Annabel");
        int hanna = Checks.named(books, 0, "Hanna");
        int lee = Checks.named(books, 0, "Annlee Lee");
        finds(books, KindredBooks.PART, "ann", lee, 0, hanna, 1, annabel, 4);
        finds(books, KindredBooks.PART, "lee", annabel, 0, lee, 3);
        finds(books, KindredBooks.PART, "E a", annabel, 2);
        finds(books, KindredBooks.PART, "hanna", hanna, 0);
        finds(books, KindredBooks.PART, "hannas");
        finds(books, KindredBooks.PART, "l", annabel, 0, lee, 3);
    }

    private static void nears() {
        KindredBooks books = new KindredBooks();
        int bob = Checks.named(books, 0, "Bob");
        int robert = Checks.named(books, 0, "Robert Bobby");
        int empty = Checks.named(books, 0, "--");
        int x = Checks.named(books, 0, "x");
        CHECKS.same("a name without words", books.shown(0, empty, KindredBooks.NAME), 1);
        finds(books, KindredBooks.NEAR, "bob", bob, 0, robert, 2);
        finds(books, KindredBooks.NEAR, "bop", bob, 1);
        finds(books, KindredBooks.NEAR, "b", x, 1, bob, 2);
        finds(books, KindredBooks.NEAR, "boby", bob, 1, robert, 1);
        finds(books, KindredBooks.NEAR, "robertas", robert, 2);
        finds(books, KindredBooks.NEAR, "robertass");
        finds(books, KindredBooks.NEAR, "bo b", bob, 1, robert, 2);
        finds(books, KindredBooks.NEAR, "obo", bob, 2);
        finds(books, KindredBooks.NEAR, "zzx", x, 2);
        finds(books, KindredBooks.NEAR, "zzz");
    }

    private static void groups() {
        KindredBooks books = new KindredBooks();
        int a = Checks.named(books, 0, "Annabel");
        int b = Checks.named(books, 0, "Ann");
        int c = Checks.named(books, 0, "Anne");
        Checks.line(books, 0, c, KindredBooks.NOTE, "Ann");
        Checks.line(books, 0, c, KindredBooks.PLACE, "Ann");
        finds(books, KindredBooks.BEGINS, "ann", b, 0, c, 1, a, 4);
        books.join(0, c, a);
        finds(books, KindredBooks.BEGINS, "ann", b, 0, a, 1);
        int anew = Checks.line(books, 0, b, KindredBooks.NAME, "Bea");
        finds(books, KindredBooks.BEGINS, "ann", b, 0, a, 1);
        books.gone(0, c);
        finds(books, KindredBooks.BEGINS, "ann", b, 0, a, 4);
        books.back(0, b + 1);
        finds(books, KindredBooks.BEGINS, "ann", a, 4);
        finds(books, KindredBooks.BEGINS, "bea", b, 0);
        books.back(0, anew);
        finds(books, KindredBooks.BEGINS, "bea");
    }

    private static void wrongCalls() {
        KindredBooks books = new KindredBooks();
        Checks.named(books, 0, "Ann");
        CHECKS.throwsA("the book first", Checks.INDEX, () -> books.search(3, 3));
        CHECKS.throwsA("then the way", Checks.ARGUMENT, () -> books.search(0, 3));
        CHECKS.throwsA("a way below", Checks.ARGUMENT, () -> books.search(0, -1));
        CHECKS.throwsA("then the text", Checks.STATE, () -> books.search(0, 0));
        Checks.type(books, "-\u00e9-");
        CHECKS.throwsA("a text without words", Checks.STATE, () -> books.search(0, 1));
        CHECKS.same("it stays", books.clearText(), 3);
    }

    private static void findsStay() {
        KindredBooks books = new KindredBooks();
        int ann = Checks.named(books, 0, "Ann");
        finds(books, KindredBooks.PART, "nn", ann, 1);
        CHECKS.throwsA("a search that throws", Checks.STATE, () -> books.search(0, 0));
        CHECKS.throwsA("a search of another way", Checks.ARGUMENT, () -> books.search(0, 9));
        books.gone(0, ann);
        CHECKS.same("the group stays", books.found(0, false), ann);
        CHECKS.same("the rank stays", books.found(0, true), 1);
        CHECKS.throwsA("found(-1)", Checks.INDEX, () -> books.found(-1, false));
        finds(books, KindredBooks.PART, "nn");
    }
}
