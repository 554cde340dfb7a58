import java.math.BigInteger;

/** The edges of promises 44 to 48: one test for each sentence. */
public final class EdgesOfWholesTest {
    private static final Checks CHECKS = new Checks("EdgesOfWholesTest");

    public static void main(String[] args) {
        agreeOnNothing();
        agreeOnTheSameChanges();
        agreeWhetherTheyCountOrNot();
        agreeOnTheFirstAndTheLast();
        digestOfNothing();
        digestOfGroups();
        digestOfShownLines();
        digestOfKindsInTheirOrder();
        digestByRisingNumbers();
        digestModuloTwoToThe64();
        errorsAreAlwaysNone();
        errorsChangeNothing();
        meanOfNothing();
        meanOfLinesThatStand();
        meanAsDoubles();
        shareOfNothing();
        shareOfWhatIsKnown();
        shareAsFloats();
        CHECKS.end();
    }

    private static void is(String what, double answer, double due) {
        CHECKS.isTrue(what + " answered " + answer + ", due is " + due, answer == due);
    }

    private static void agree(KindredBooks books, int one, int other, boolean due) {
        CHECKS.same("agree(" + one + ", " + other + ")", books.agree(one, other) ? 1 : 0, due ? 1 : 0);
        CHECKS.same("agree(" + other + ", " + one + ")", books.agree(other, one) ? 1 : 0, due ? 1 : 0);
    }

    private static void agreeOnNothing() {
        KindredBooks books = new KindredBooks();
        for (int one = 0; one < 3; one++) {
            for (int other = 0; other < 3; other++) {
                agree(books, one, other, true);
            }
        }
        CHECKS.throwsA("agree(3, 0)", Checks.INDEX, () -> books.agree(3, 0));
        CHECKS.throwsA("agree(0, 3)", Checks.INDEX, () -> books.agree(0, 3));
        CHECKS.throwsA("agree(-1, -1)", Checks.INDEX, () -> books.agree(-1, -1));
    }

    /** "Tells whether two books know the same changes": not as many, and not less or more. */
    private static void agreeOnTheSameChanges() {
        KindredBooks books = new KindredBooks();
        books.entry(0);
        agree(books, 0, 1, false);
        agree(books, 1, 2, true);
        agree(books, 0, 0, true);
        books.entry(1);
        agree(books, 0, 1, false);
        books.hear(0, 1);
        agree(books, 0, 1, false);
        books.hear(1, 0);
        agree(books, 0, 1, true);
        agree(books, 1, 2, false);
        books.hear(2, 1);
        agree(books, 2, 0, true);
        books.undo(2);
        agree(books, 2, 0, true);
    }

    /** They know a change that is taken back, too. */
    private static void agreeWhetherTheyCountOrNot() {
        KindredBooks books = new KindredBooks();
        books.entry(0);
        books.hear(1, 0);
        agree(books, 0, 1, true);
        books.undo(0);
        agree(books, 0, 1, false);
        CHECKS.same("known", books.known(0), 2);
        books.hear(1, 0);
        agree(books, 0, 1, true);
        // like shown, but not the same known
        KindredBooks shown = new KindredBooks();
        shown.entry(0);
        shown.undo(0);
        CHECKS.isTrue("like digests", shown.digest(0) == shown.digest(1));
        agree(shown, 0, 1, false);
    }

    private static void agreeOnTheFirstAndTheLast() {
        KindredBooks books = new KindredBooks();
        for (int i = 0; i < 249; i++) {
            books.entry(0);
        }
        books.hear(1, 0);
        agree(books, 0, 1, true);
        books.entry(1);
        agree(books, 0, 1, false);
        books.hear(0, 1);
        agree(books, 0, 1, true);
        agree(books, 0, 2, false);
        KindredBooks first = new KindredBooks();
        first.entry(0);
        for (int i = 0; i < 249; i++) {
            first.entry(1);
        }
        first.hear(0, 1);
        agree(first, 0, 1, false);
        CHECKS.same("the first one is new", first.hear(1, 0), 1);
        agree(first, 0, 1, true);
    }

    private static long digest(long... numbers) {
        BigInteger sum = BigInteger.valueOf(7);
        for (long number : numbers) {
            sum = sum.multiply(BigInteger.valueOf(31)).add(BigInteger.valueOf(number));
        }
        return sum.longValue();
    }

    /** "7 at first". */
    private static void digestOfNothing() {
        KindredBooks books = new KindredBooks();
        for (int book = 0; book < 3; book++) {
            CHECKS.same("digest(" + book + ")", books.digest(book), 7);
        }
        books.gone(0, books.entry(0));
        CHECKS.same("of what is gone", books.digest(0), 7);
        CHECKS.throwsA("of no book", Checks.INDEX, () -> books.digest(3));
    }

    /** "then for each group .., 31 times as much, plus its number". */
    private static void digestOfGroups() {
        KindredBooks books = new KindredBooks();
        books.entry(0);
        CHECKS.same("of group 0", books.digest(0), 7 * 31);
        books.entry(0);
        CHECKS.same("of groups 0 and 1", books.digest(0), 7 * 31 * 31 + 1);
        books.join(0, 0, 1);
        CHECKS.same("of one group", books.digest(0), 7 * 31);
        CHECKS.same("elsewhere", books.digest(1), 7);
    }

    /** "and then for each kind and each line of it that is shown": none that is not shown. */
    private static void digestOfShownLines() {
        KindredBooks books = new KindredBooks();
        books.entry(0);
        int first = Checks.line(books, 0, 0, KindredBooks.NAME, "a");
        CHECKS.same("a name", books.digest(0), digest(0, first));
        int second = Checks.line(books, 0, 0, KindredBooks.NAME, "b");
        CHECKS.same("the later name", books.digest(0), digest(0, second));
        int note = Checks.line(books, 0, 0, KindredBooks.NOTE, "x");
        int like = Checks.line(books, 0, 0, KindredBooks.NOTE, "x");
        CHECKS.same("the earlier note", books.digest(0), digest(0, second, note));
        books.back(0, note);
        CHECKS.same("the like note", books.digest(0), digest(0, second, like));
        int way = Checks.line(books, 0, 0, KindredBooks.WAY, "1");
        int other = Checks.line(books, 0, 0, KindredBooks.WAY, "+491");
        CHECKS.same("one way", books.digest(0), digest(0, second, way, like));
        books.setCountry(1);
        CHECKS.same("two ways elsewhere", books.digest(0), digest(0, second, way, other, like));
    }

    /** "for each kind and each line of it .., in their order": NAME to NOTE, and as shownAt() has them. */
    private static void digestOfKindsInTheirOrder() {
        KindredBooks books = new KindredBooks();
        int entry = books.entry(0);
        int[] made = new int[6];
        for (int kind = KindredBooks.NOTE; kind >= 0; kind--) {
            made[kind] = Checks.line(books, 0, entry, kind, "2000-01-01");
        }
        made[5] = Checks.line(books, 0, entry, KindredBooks.WAY, "2");
        CHECKS.same("of five kinds", books.digest(0), digest(0, made[0], made[1], made[5], made[2], made[3], made[4]));
    }

    /** "by rising numbers": each group with its lines ahead of the next one. */
    private static void digestByRisingNumbers() {
        KindredBooks books = new KindredBooks();
        int one = books.entry(0);
        int other = books.entry(0);
        int third = books.entry(0);
        int noteOfThird = Checks.line(books, 0, third, KindredBooks.NOTE, "x");
        int nameOfOther = Checks.line(books, 0, other, KindredBooks.NAME, "y");
        CHECKS.same("of three", books.digest(0), digest(one, other, nameOfOther, third, noteOfThird));
        books.join(0, third, one);
        CHECKS.same("of two", books.digest(0), digest(one, noteOfThird, other, nameOfOther));
        books.gone(0, one);
        CHECKS.same("without the first", books.digest(0), digest(other, nameOfOther, third, noteOfThird));
    }

    /** "modulo 2^64 (as a long)": from twelve groups on it is above 2^63. */
    private static void digestModuloTwoToThe64() {
        KindredBooks books = new KindredBooks();
        long[] numbers = new long[250];
        boolean wasBelow = false;
        for (int i = 0; i < 250; i++) {
            numbers[i] = books.entry(0);
            if (i < 40 || i > 240) {
                long due = digest(java.util.Arrays.copyOf(numbers, i + 1));
                CHECKS.same("of " + (i + 1) + " groups", books.digest(0), due);
                wasBelow |= due < 0;
            }
        }
        CHECKS.isTrue("some are below 0 as a long", wasBelow);
    }

    /** "Returns how many of these checks fail; always 0": of books of all sorts. */
    private static void errorsAreAlwaysNone() {
        KindredBooks books = new KindredBooks();
        for (int book = 0; book < 3; book++) {
            CHECKS.same("of nothing", books.errors(book), 0);
        }
        for (int i = 0; i < 40; i++) {
            Checks.named(books, i % 3, "Ann" + (char) ('a' + i % 7));
        }
        books.hear(0, 1);
        books.hear(1, 2);
        books.hear(2, 0);
        for (int i = 0; i + 9 < 40; i++) {
            Checks.outcome(() -> books.join(0, 0, books.groupAt(0, 1)));
            int far = i;
            Checks.outcome(() -> books.never(1, 2, 2 * far));
            Checks.outcome(() -> books.join(2, books.groupAt(2, 0), 2 * far));
            if (i % 10 == 0) {
                CHECKS.same("behind " + i, books.errors(i % 3), 0);
            }
        }
        for (int book = 0; book < 3; book++) {
            books.hear(book, (book + 1) % 3);
            books.hear(book, (book + 2) % 3);
        }
        for (int book = 0; book < 3; book++) {
            CHECKS.same("behind hearing", books.errors(book), 0);
        }
        CHECKS.same("groups are joined", books.groups(0) < 40 ? 1 : 0, 1);
        CHECKS.throwsA("of no book", Checks.INDEX, () -> books.errors(3));
        CHECKS.throwsA("of a book below", Checks.INDEX, () -> books.errors(-1));
    }

    /** "nothing changes". */
    private static void errorsChangeNothing() {
        KindredBooks books = new KindredBooks();
        Checks.named(books, 0, "Ann");
        Checks.named(books, 0, "Ann");
        books.suggest(0, 401);
        Checks.type(books, "ann");
        books.search(0, 0);
        books.write(1, 0);
        String before = Checks.look(books);
        CHECKS.same("errors", books.errors(0), 0);
        CHECKS.same("errors", books.errors(2), 0);
        CHECKS.same("all that is seen", Checks.look(books), before);
    }

    /** "0.0 without these": without live entries, with changes or without. */
    private static void meanOfNothing() {
        KindredBooks books = new KindredBooks();
        is("meanLines of nothing", books.meanLines(0), 0.0);
        int entry = books.entry(0);
        is("meanLines without lines", books.meanLines(0), 0.0);
        Checks.line(books, 0, entry, KindredBooks.NOTE, "x");
        is("meanLines of one line", books.meanLines(0), 1.0);
        books.gone(0, entry);
        is("meanLines of what is gone", books.meanLines(0), 0.0);
        is("meanLines of another book", books.meanLines(1), 0.0);
        CHECKS.throwsA("meanLines of no book", Checks.INDEX, () -> books.meanLines(3));
    }

    /** "the mean number of lines that stand, for the live entries of a book": of entries, not of groups. */
    private static void meanOfLinesThatStand() {
        KindredBooks books = new KindredBooks();
        int one = books.entry(0);
        int other = books.entry(0);
        Checks.line(books, 0, one, KindredBooks.NAME, "x");
        Checks.line(books, 0, one, KindredBooks.NAME, "x");
        int line = Checks.line(books, 0, one, KindredBooks.NAME, "y");
        is("three for two", books.meanLines(0), 1.5);
        books.join(0, one, other);
        is("joined", books.meanLines(0), 1.5);
        books.back(0, line);
        is("two for two", books.meanLines(0), 1.0);
        books.gone(0, other);
        is("two for one", books.meanLines(0), 2.0);
        books.hear(1, 0);
        Checks.line(books, 1, one, KindredBooks.NOTE, "z");
        is("not known", books.meanLines(0), 2.0);
        is("known", books.meanLines(1), 3.0);
    }

    /** "converted to double, divided by that .., converted to double". */
    private static void meanAsDoubles() {
        KindredBooks books = new KindredBooks();
        for (int i = 0; i < 7; i++) {
            books.entry(0);
        }
        for (int i = 1; i <= 9; i++) {
            Checks.line(books, 0, i % 7, KindredBooks.NOTE, "x");
            is(i + " for seven", books.meanLines(0), (double) i / 7.0);
        }
        KindredBooks full = new KindredBooks();
        full.entry(0);
        for (int i = 0; i < 249; i++) {
            full.type('x');
            full.line(0, 0, KindredBooks.NOTE);
        }
        is("249 for one", full.meanLines(0), 249.0);
    }

    /** "0.0f if it knows none". */
    private static void shareOfNothing() {
        KindredBooks books = new KindredBooks();
        is("countShare of nothing", books.countShare(0), 0.0f);
        books.entry(0);
        is("countShare of one", books.countShare(0), 1.0f);
        is("countShare of another book", books.countShare(1), 0.0f);
        CHECKS.throwsA("countShare of no book", Checks.INDEX, () -> books.countShare(3));
    }

    /** "the share of the changes that a book knows that count in it": not of those that stand. */
    private static void shareOfWhatIsKnown() {
        KindredBooks books = new KindredBooks();
        int entry = books.entry(0);
        Checks.line(books, 0, entry, KindredBooks.NOTE, "x");
        books.gone(0, entry);
        is("what is gone counts", books.countShare(0), 1.0f);
        books.hear(1, 0);
        books.back(0, entry);
        is("three of four", books.countShare(0), 0.75f);
        is("all of three elsewhere", books.countShare(1), 1.0f);
        books.back(0, 3);
        is("four of five", books.countShare(0), 0.8f);
        books.hear(1, 0);
        is("four of five elsewhere", books.countShare(1), 0.8f);
    }

    /** "converted to float, divided by .., converted to float". */
    private static void shareAsFloats() {
        KindredBooks books = new KindredBooks();
        for (int i = 0; i < 7; i++) {
            books.entry(0);
        }
        for (int i = 1; i <= 7; i++) {
            books.undo(0);
            is("7 of " + (7 + i), books.countShare(0), 7.0f / (float) (7 + i));
        }
        KindredBooks full = new KindredBooks();
        full.undo(full.entry(0));
        Checks.fill(full);
        full.hear(0, 2);
        is("249 of 250", full.countShare(0), 249.0f / 250.0f);
    }
}
