/** Promises 14 to 19: what is told about changes. */
public final class TellingTest {
    private static final Checks CHECKS = new Checks("TellingTest");

    public static void main(String[] args) {
        telling();
        knowing();
        counting();
        standing();
        holding();
        holdingInOrder();
        CHECKS.end();
    }

    private static void tells(KindredBooks books, int change, int... due) {
        for (int what = 0; what < due.length; what++) {
            CHECKS.same("change(" + change + ", " + what + ")", books.change(change, what), due[what]);
        }
    }

    /** Promises 14 and 15. */
    private static void telling() {
        KindredBooks books = new KindredBooks();
        books.entry(2);
        books.entry(2);
        Checks.line(books, 2, 1, KindredBooks.PLACE, "York");
        books.join(2, 1, 0);
        books.never(2, 1, 0);
        books.member(2, 1, 0);
        books.gone(2, 1);
        books.back(2, 6);
        CHECKS.same("changes()", books.changes(), 8);
        tells(books, 0, KindredBooks.ENTRY, 2, 1, -1, -1, 0);
        tells(books, 1, KindredBooks.ENTRY, 2, 2, -1, -1, 0);
        tells(books, 2, KindredBooks.LINE, 2, 3, 1, KindredBooks.PLACE, 4);
        tells(books, 3, KindredBooks.JOIN, 2, 4, 1, 0, 0);
        tells(books, 4, KindredBooks.NEVER, 2, 5, 1, 0, 0);
        tells(books, 5, KindredBooks.MEMBER, 2, 6, 1, 0, 0);
        tells(books, 6, KindredBooks.GONE, 2, 7, 1, -1, 0);
        tells(books, 7, KindredBooks.BACK, 2, 8, 6, -1, 0);
        CHECKS.throwsA("no such change first", Checks.INDEX, () -> books.change(8, 6));
        CHECKS.throwsA("a change below", Checks.INDEX, () -> books.change(-1, 0));
        CHECKS.throwsA("what above", Checks.ARGUMENT, () -> books.change(7, 6));
        CHECKS.throwsA("what below", Checks.ARGUMENT, () -> books.change(7, -1));
    }

    /** Promise 16. */
    private static void knowing() {
        KindredBooks books = new KindredBooks();
        books.entry(0);
        books.undo(0);
        books.entry(1);
        CHECKS.same("known(0)", books.known(0), 2);
        CHECKS.same("known(1)", books.known(1), 1);
        CHECKS.same("known(2)", books.known(2), 0);
        books.hear(1, 0);
        CHECKS.same("known(1) behind hearing", books.known(1), 3);
        CHECKS.throwsA("known(3)", Checks.INDEX, () -> books.known(3));
        CHECKS.throwsA("known(-1)", Checks.INDEX, () -> books.known(-1));
    }

    /** Promise 17. */
    private static void counting() {
        KindredBooks books = new KindredBooks();
        int entry = books.entry(0);
        int line = Checks.line(books, 0, entry, KindredBooks.NOTE, "x");
        int back = books.back(0, entry);
        CHECKS.isFalse("the entry counts", books.counts(0, entry));
        CHECKS.isTrue("its line counts", books.counts(0, line));
        CHECKS.isFalse("its line stands", books.stands(0, line));
        CHECKS.isTrue("the BACK counts", books.counts(0, back));
        CHECKS.isFalse("where it is not known", books.counts(1, line));
        CHECKS.throwsA("no such book", Checks.INDEX, () -> books.counts(3, 0));
        CHECKS.throwsA("no such change", Checks.INDEX, () -> books.counts(0, 3));
        CHECKS.throwsA("a change below", Checks.INDEX, () -> books.counts(0, -1));
    }

    /** Promise 18. */
    private static void standing() {
        KindredBooks books = new KindredBooks();
        int one = books.entry(0);
        int other = books.entry(0);
        int line = Checks.line(books, 0, one, KindredBooks.NOTE, "x");
        int join = books.join(0, one, other);
        int never = books.never(0, one, other);
        int member = books.member(0, one, other);
        int[] named = {join, never, member};
        for (int change : named) {
            CHECKS.isTrue("stands", books.stands(0, change));
            CHECKS.isFalse("stands where it is not known", books.stands(1, change));
        }
        int gone = books.gone(0, other);
        CHECKS.isTrue("the GONE stands", books.stands(0, gone));
        CHECKS.isFalse("the entry that is gone stands", books.stands(0, other));
        CHECKS.isTrue("the line of the one stands", books.stands(0, line));
        for (int change : named) {
            CHECKS.isFalse("stands with an entry that is gone", books.stands(0, change));
            CHECKS.isTrue("counts with an entry that is gone", books.counts(0, change));
        }
        int back = books.back(0, gone);
        CHECKS.isTrue("the BACK stands", books.stands(0, back));
        CHECKS.isFalse("the GONE stands", books.stands(0, gone));
        for (int change : named) {
            CHECKS.isTrue("stands again", books.stands(0, change));
        }
        books.back(0, one);
        CHECKS.isFalse("the line of what is taken back stands", books.stands(0, line));
        CHECKS.isFalse("the JOIN of what is taken back stands", books.stands(0, join));
        CHECKS.throwsA("no such book", Checks.INDEX, () -> books.stands(-1, 0));
        CHECKS.throwsA("no such change", Checks.INDEX, () -> books.stands(0, 99));
    }

    /** Promise 19. */
    private static void holding() {
        KindredBooks books = new KindredBooks();
        int a = books.entry(0);
        int b = books.entry(0);
        int c = books.entry(0);
        int first = books.join(0, a, b);
        int second = books.join(0, b, a);
        int never = books.never(0, a, c);
        int third = books.join(0, b, c);
        CHECKS.isTrue("the first JOIN holds", books.holds(0, first));
        CHECKS.isTrue("a JOIN within a group holds", books.holds(0, second));
        CHECKS.isFalse("a JOIN against a NEVER, through another one, holds", books.holds(0, third));
        CHECKS.isTrue("and stands", books.stands(0, third));
        CHECKS.isFalse("an ENTRY is no JOIN", books.holds(0, a));
        CHECKS.isFalse("a NEVER is no JOIN", books.holds(0, never));
        CHECKS.isFalse("a JOIN that is not known holds", books.holds(1, first));
        books.back(0, never);
        CHECKS.isTrue("it holds without the NEVER", books.holds(0, third));
        books.gone(0, b);
        CHECKS.isFalse("a JOIN with what is gone holds", books.holds(0, first));
        CHECKS.throwsA("no such book", Checks.INDEX, () -> books.holds(3, 0));
        CHECKS.throwsA("no such change", Checks.INDEX, () -> books.holds(0, 99));
        CHECKS.throwsA("a change below", Checks.INDEX, () -> books.holds(0, -1));
    }

    /** Of two JOINs that a NEVER keeps apart the earlier one holds, whatever the order of the numbers. */
    private static void holdingInOrder() {
        KindredBooks books = new KindredBooks();
        int a = books.entry(0);
        int b = books.entry(0);
        int c = books.entry(0);
        books.never(0, a, c);
        books.hear(1, 0);
        books.hear(2, 0);
        int late = books.join(1, a, b);
        int early = books.join(0, b, c);
        int latest = books.join(2, a, b);
        CHECKS.same("like counts", books.change(late, 2), books.change(early, 2));
        books.hear(0, 1);
        books.hear(0, 2);
        CHECKS.isTrue("the lesser hand holds", books.holds(0, early));
        CHECKS.isFalse("the greater hand holds", books.holds(0, late));
        CHECKS.isFalse("the greatest hand holds", books.holds(0, latest));
        CHECKS.isTrue("alone it holds", books.holds(1, late));
        books.hear(1, 0);
        CHECKS.isFalse("together it does not", books.holds(1, late));
        books.back(0, early);
        CHECKS.isTrue("without the earlier one it holds", books.holds(0, late) && books.holds(0, latest));
    }
}
