/** Promises 1 to 13: a new object, the text, and the making of changes. */
public final class MakingTest {
    private static final Checks CHECKS = new Checks("MakingTest");

    public static void main(String[] args) {
        newObject();
        typing();
        clearing();
        country();
        entries();
        lines();
        lineTexts();
        pairs();
        goings();
        backs();
        undoing();
        hearing();
        hearingThirds();
        lastChanges();
        fullBooks();
        CHECKS.end();
    }

    /** Promise 1. */
    private static void newObject() {
        KindredBooks books = new KindredBooks();
        CHECKS.same("changes()", books.changes(), 0);
        for (int book = 0; book < 3; book++) {
            CHECKS.same("known()", books.known(book), 0);
            CHECKS.same("groups()", books.groups(book), 0);
        }
        CHECKS.same("clearText()", books.clearText(), 0);
        CHECKS.throwsA("pageAt(0)", Checks.INDEX, () -> books.pageAt(0));
        CHECKS.throwsA("suggested(0, 0)", Checks.INDEX, () -> books.suggested(0, 0));
        CHECKS.throwsA("found(0, true)", Checks.INDEX, () -> books.found(0, true));
        CHECKS.throwsA("yearlyAt(0, 0)", Checks.INDEX, () -> books.yearlyAt(0, 0));
        CHECKS.throwsA("known(3)", Checks.INDEX, () -> books.known(3));
    }

    /** Promise 2. */
    private static void typing() {
        KindredBooks books = new KindredBooks();
        CHECKS.same("type(0)", books.type(0), 0);
        CHECKS.same("two bytes with 0 between", books.type(0x4100004200000000L), 2);
        CHECKS.same("eight bytes", books.type(0x4344454647484950L), 10);
        int entry = books.entry(0);
        CHECKS.same("the line", Checks.form(books, books.line(0, entry, KindredBooks.NOTE), 0), "ABCDEFGHIP");
        for (int i = 0; i < 49; i++) {
            books.type(-1L);
        }
        CHECKS.same("up to 399", books.type(0x01010101010101L), 399);
        CHECKS.throwsA("two bytes above 400", Checks.STATE, () -> books.type(0x2020L));
        CHECKS.same("one byte up to 400", books.type(0xFF00L), 400);
        CHECKS.throwsA("a byte above 400", Checks.STATE, () -> books.type(32));
        CHECKS.same("no byte at 400", books.type(0), 400);
        CHECKS.same("what threw left it", books.clearText(), 400);
    }

    /** Promise 3. */
    private static void clearing() {
        KindredBooks books = new KindredBooks();
        Checks.type(books, "abc");
        CHECKS.same("clearText()", books.clearText(), 3);
        CHECKS.same("clearText() again", books.clearText(), 0);
        CHECKS.same("type() behind it", books.type('x'), 1);
    }

    /** Promise 4. */
    private static void country() {
        KindredBooks books = new KindredBooks();
        int line = Checks.line(books, 0, books.entry(0), KindredBooks.WAY, "030 1");
        CHECKS.same("49 at first", Checks.form(books, line, 2), "+49301");
        CHECKS.same("setCountry(1)", books.setCountry(1), 49);
        CHECKS.same("CALL with 1", Checks.form(books, line, 2), "+1301");
        CHECKS.throwsA("setCountry(0)", Checks.ARGUMENT, () -> books.setCountry(0));
        CHECKS.throwsA("setCountry(1000)", Checks.ARGUMENT, () -> books.setCountry(1000));
        CHECKS.throwsA("setCountry(-1)", Checks.ARGUMENT, () -> books.setCountry(-1));
        CHECKS.same("setCountry(999)", books.setCountry(999), 1);
        CHECKS.same("CALL with 999", Checks.form(books, line, 2), "+999301");
        CHECKS.same("setCountry(10)", books.setCountry(10), 999);
        CHECKS.same("CALL with 10", Checks.form(books, line, 2), "+10301");
        for (int book = 0; book < 3; book++) {
            books.hear(book, 0);
            Checks.line(books, book, 0, KindredBooks.WAY, "+10301");
            CHECKS.same("like ways in each book", books.shown(book, 0, KindredBooks.WAY), 1);
        }
        books.setCountry(11);
        for (int book = 0; book < 3; book++) {
            CHECKS.same("other ways in each book", books.shown(book, 0, KindredBooks.WAY), 2);
        }
        books.setCountry(10);
        CHECKS.same("setCountry(100)", books.setCountry(100), 10);
        CHECKS.same("CALL with 100", Checks.form(books, line, 2), "+100301");
    }

    /** Promise 5. */
    private static void entries() {
        KindredBooks books = new KindredBooks();
        CHECKS.same("entry(0)", books.entry(0), 0);
        CHECKS.same("entry(2)", books.entry(2), 1);
        CHECKS.same("entry(0)", books.entry(0), 2);
        CHECKS.same("its hand", books.change(1, 1), 2);
        CHECKS.same("its count", books.change(1, 2), 1);
        CHECKS.same("the third one's count", books.change(2, 2), 2);
        CHECKS.throwsA("entry(3)", Checks.INDEX, () -> books.entry(3));
        CHECKS.throwsA("entry(-1)", Checks.INDEX, () -> books.entry(-1));
        CHECKS.same("changes()", books.changes(), 3);
    }

    /** Promise 6. */
    private static void lines() {
        KindredBooks books = new KindredBooks();
        int entry = books.entry(0);
        Checks.type(books, "Ann");
        CHECKS.throwsA("no such book first", Checks.INDEX, () -> books.line(3, 9, 9));
        CHECKS.throwsA("then the kind", Checks.ARGUMENT, () -> books.line(0, 9, 5));
        CHECKS.throwsA("a kind below", Checks.ARGUMENT, () -> books.line(0, entry, -1));
        CHECKS.throwsA("then the entry", Checks.ELEMENT, () -> books.line(0, 1, 3));
        CHECKS.throwsA("an entry below", Checks.ELEMENT, () -> books.line(0, -1, 0));
        CHECKS.throwsA("not known there", Checks.ELEMENT, () -> books.line(1, entry, 0));
        CHECKS.throwsA("then the text", Checks.STATE, () -> books.line(0, entry, KindredBooks.DAY));
        CHECKS.same("nothing is made", books.changes(), 1);
        CHECKS.same("the text stays: line()", books.line(0, entry, KindredBooks.NAME), 1);
        CHECKS.same("its text", Checks.form(books, 1, 0), "Ann");
        CHECKS.same("the text is emptied", books.clearText(), 0);
        CHECKS.throwsA("no text", Checks.STATE, () -> books.line(0, entry, KindredBooks.NAME));
        Checks.type(books, "x");
        CHECKS.throwsA("a line is no entry", Checks.ELEMENT, () -> books.line(0, 1, KindredBooks.NAME));
        int gone = books.gone(0, entry);
        CHECKS.throwsA("it is gone", Checks.ELEMENT, () -> books.line(0, entry, KindredBooks.NAME));
        books.back(0, gone);
        CHECKS.same("it is live again", books.line(0, entry, KindredBooks.NOTE), 4);
        CHECKS.same("shown", books.shown(0, entry, KindredBooks.NOTE), 1);
    }

    private static void isText(int kind, String text, boolean due) {
        KindredBooks books = new KindredBooks();
        int entry = books.entry(1);
        Checks.type(books, text);
        CHECKS.same("line with \"" + text + "\"", Checks.outcome(() -> books.line(1, entry, kind)), due ? "1" : Checks.STATE);
        CHECKS.same("text left of \"" + text + "\"", books.clearText(), due ? 0 : text.length());
    }

    private static void lineTexts() {
        String forty = "1234567890123456789012345678901234567890";
        isText(KindredBooks.NAME, forty, true);
        isText(KindredBooks.NAME, forty + "1", false);
        isText(KindredBooks.WAY, "", false);
        isText(KindredBooks.PLACE, " ", true);
        isText(KindredBooks.NOTE, "~", true);
        isText(KindredBooks.NOTE, "a\u007f", false);
        isText(KindredBooks.NOTE, "\u001fa", false);
        isText(KindredBooks.NOTE, "a\u00e9", false);
        isText(KindredBooks.NAME, "2023-02-29", true);
        isText(KindredBooks.DAY, "2024-02-29", true);
        isText(KindredBooks.DAY, "2023-02-29", false);
        isText(KindredBooks.DAY, "1900-02-29", false);
        isText(KindredBooks.DAY, "2000-02-29", true);
        isText(KindredBooks.DAY, "2000-02-30", false);
        isText(KindredBooks.DAY, "0001-01-01", true);
        isText(KindredBooks.DAY, "0000-01-01", false);
        isText(KindredBooks.DAY, "9999-12-31", true);
        isText(KindredBooks.DAY, "2001-00-01", false);
        isText(KindredBooks.DAY, "2001-13-01", false);
        isText(KindredBooks.DAY, "2001-12-00", false);
        isText(KindredBooks.DAY, "2001-12-32", false);
        for (int month = 1; month <= 12; month++) {
            boolean hasThirtyOne = month == 1 || month == 3 || month == 5 || month == 7 || month == 8 || month == 10 || month == 12;
            isText(KindredBooks.DAY, String.format("2001-%02d-31", month), hasThirtyOne);
            isText(KindredBooks.DAY, String.format("2001-%02d-30", month), month != 2);
        }
        isText(KindredBooks.DAY, "2001-1-01", false);
        isText(KindredBooks.DAY, "2001-01-011", false);
        isText(KindredBooks.DAY, "20010-1-01", false);
        isText(KindredBooks.DAY, "2001/01/01", false);
        isText(KindredBooks.DAY, "2001-01/01", false);
        isText(KindredBooks.DAY, "2001-01-0a", false);
        isText(KindredBooks.DAY, " 001-01-01", false);
    }

    /** Promises 7, 8 and 9. */
    private static int make(KindredBooks books, int kind, int book, int one, int other) {
        if (kind == KindredBooks.JOIN) {
            return books.join(book, one, other);
        }
        return kind == KindredBooks.NEVER ? books.never(book, one, other) : books.member(book, one, other);
    }

    private static void pairs() {
        for (int kind = KindredBooks.JOIN; kind <= KindredBooks.MEMBER; kind++) {
            int made = kind;
            String call = "kind " + kind + ": ";
            KindredBooks books = new KindredBooks();
            int one = books.entry(0);
            int other = books.entry(0);
            int line = Checks.line(books, 0, one, KindredBooks.NAME, "Ann");
            int foreign = books.entry(1);
            CHECKS.throwsA(call + "the book first", Checks.INDEX, () -> make(books, made, -1, 7, 7));
            CHECKS.throwsA(call + "then the same one", Checks.ARGUMENT, () -> make(books, made, 0, 77, 77));
            CHECKS.throwsA(call + "the same live one", Checks.ARGUMENT, () -> make(books, made, 0, one, one));
            CHECKS.throwsA(call + "the one no entry", Checks.ELEMENT, () -> make(books, made, 0, line, one));
            CHECKS.throwsA(call + "the other no entry", Checks.ELEMENT, () -> make(books, made, 0, one, line));
            CHECKS.throwsA(call + "the other not known", Checks.ELEMENT, () -> make(books, made, 0, one, foreign));
            CHECKS.throwsA(call + "the one not known", Checks.ELEMENT, () -> make(books, made, 0, foreign, one));
            CHECKS.throwsA(call + "the other not there", Checks.ELEMENT, () -> make(books, made, 0, one, 250));
            CHECKS.same(call + "nothing is made", books.changes(), 4);
            CHECKS.same(call + "its number", make(books, made, 0, other, one), 4);
            CHECKS.same(call + "its kind", books.change(4, 0), kind);
            CHECKS.same(call + "its first entry", books.change(4, 3), other);
            CHECKS.same(call + "its second entry", books.change(4, 4), one);
            CHECKS.same(call + "made once more", make(books, made, 0, one, other), 5);
            CHECKS.same(call + "groups", books.groups(0), kind == KindredBooks.JOIN ? 1 : 2);
            CHECKS.same(call + "forbids", books.forbids(0, one, other), kind == KindredBooks.NEVER ? 4 : -1);
            CHECKS.same(call + "members", books.members(0, other), kind == KindredBooks.MEMBER ? 1 : 0);
            books.gone(0, other);
            CHECKS.throwsA(call + "the one is gone", Checks.ELEMENT, () -> make(books, made, 0, other, one));
            CHECKS.throwsA(call + "the other is gone", Checks.ELEMENT, () -> make(books, made, 0, one, other));
            CHECKS.isFalse(call + "stands", books.stands(0, 4));
        }
    }

    /** Promise 10. */
    private static void goings() {
        KindredBooks books = new KindredBooks();
        int entry = books.entry(0);
        CHECKS.throwsA("gone in no book", Checks.INDEX, () -> books.gone(3, 9));
        CHECKS.throwsA("gone, not known", Checks.ELEMENT, () -> books.gone(1, entry));
        CHECKS.throwsA("gone, not there", Checks.ELEMENT, () -> books.gone(0, 1));
        CHECKS.same("gone", books.gone(0, entry), 1);
        CHECKS.throwsA("gone again", Checks.ELEMENT, () -> books.gone(0, entry));
        CHECKS.throwsA("a GONE is no entry", Checks.ELEMENT, () -> books.gone(0, 1));
        CHECKS.same("groups", books.groups(0), 0);
        CHECKS.isTrue("its ENTRY counts", books.counts(0, entry));
        CHECKS.isFalse("its ENTRY stands", books.stands(0, entry));
    }

    /** Promise 11. */
    private static void backs() {
        KindredBooks books = new KindredBooks();
        int entry = books.entry(0);
        CHECKS.throwsA("back in no book", Checks.INDEX, () -> books.back(3, 0));
        CHECKS.throwsA("no such change", Checks.INDEX, () -> books.back(0, 1));
        CHECKS.throwsA("a change below", Checks.INDEX, () -> books.back(0, -1));
        CHECKS.throwsA("not known", Checks.ELEMENT, () -> books.back(1, entry));
        CHECKS.same("back", books.back(0, entry), 1);
        CHECKS.throwsA("it counts no more", Checks.ELEMENT, () -> books.back(0, entry));
        CHECKS.same("the BACK taken back", books.back(0, 1), 2);
        CHECKS.isTrue("it counts again", books.counts(0, entry));
        CHECKS.same("back again", books.back(0, entry), 3);
        CHECKS.isFalse("it counts no more", books.counts(0, entry));
        CHECKS.same("back of the back of the back", books.back(0, 2), 4);
        CHECKS.isTrue("the first BACK counts", books.counts(0, 1));
        CHECKS.same("what it names", books.change(4, 3), 2);
    }

    /** Promise 12. */
    private static void undoing() {
        KindredBooks books = new KindredBooks();
        CHECKS.throwsA("undo in no book", Checks.INDEX, () -> books.undo(-1));
        CHECKS.same("nothing to undo", books.undo(0), KindredBooks.NONE);
        int own = books.entry(0);
        int foreign = books.entry(1);
        books.hear(0, 1);
        int later = books.entry(0);
        CHECKS.same("undo", books.undo(0), later);
        CHECKS.same("a BACK is made", books.change(books.changes() - 1, 0), KindredBooks.BACK);
        CHECKS.same("undo, not the other's", books.undo(0), own);
        CHECKS.same("undo, no BACK and none that is taken back", books.undo(0), KindredBooks.NONE);
        CHECKS.same("and none is made", books.changes(), 5);
        CHECKS.isTrue("the other's counts", books.counts(0, foreign));
        books.back(0, 3);
        CHECKS.same("undo what counts again", books.undo(0), later);
        books.hear(1, 0);
        int gone = books.gone(1, foreign);
        CHECKS.same("undo a GONE", books.undo(1), gone);
        books.hear(2, 1);
        CHECKS.same("nothing of its own", books.undo(2), KindredBooks.NONE);
    }

    /** Promise 13. */
    private static void hearing() {
        KindredBooks books = new KindredBooks();
        CHECKS.throwsA("hear in no book", Checks.INDEX, () -> books.hear(3, 0));
        CHECKS.throwsA("hear of no book", Checks.INDEX, () -> books.hear(0, -1));
        int one = books.entry(0);
        int two = books.entry(1);
        CHECKS.same("hear itself", books.hear(0, 0), 0);
        CHECKS.same("hear", books.hear(1, 0), 1);
        CHECKS.same("hear again", books.hear(1, 0), 0);
        CHECKS.same("the one that is heard", books.known(0), 1);
        CHECKS.same("hear both", books.hear(2, 1), 2);
        int join = books.join(2, two, one);
        CHECKS.same("its count", books.change(join, 2), 2);
        CHECKS.same("hear the join and the entry", books.hear(0, 2), 2);
        CHECKS.same("groups", books.groups(0), 1);
        CHECKS.same("groups of the one that did not hear", books.groups(1), 2);
    }

    /** A BACK that is heard of before and behind what stands, and counts that go up by hearing. */
    private static void hearingThirds() {
        KindredBooks books = new KindredBooks();
        int entry = books.entry(0);
        books.entry(0);
        books.entry(0);
        CHECKS.same("a first count elsewhere", books.change(books.entry(1), 2), 1);
        books.hear(1, 0);
        CHECKS.same("a count behind hearing", books.change(books.entry(1), 2), 4);
        int back = books.back(1, entry);
        books.hear(2, 1);
        CHECKS.isFalse("taken back in the third", books.counts(2, entry));
        CHECKS.isTrue("still in the first", books.counts(0, entry));
        books.back(2, back);
        books.hear(0, 1);
        CHECKS.isFalse("taken back in the first", books.counts(0, entry));
        books.hear(0, 2);
        CHECKS.isTrue("counts again in the first", books.counts(0, entry));
        CHECKS.isFalse("not in the second", books.counts(1, entry));
    }

    /** The last change that there can be is one like the others. */
    private static void lastChanges() {
        for (int kind = KindredBooks.ENTRY; kind <= KindredBooks.BACK; kind++) {
            KindredBooks books = new KindredBooks();
            for (int i = 0; i < 249; i++) {
                books.entry(0);
            }
            Checks.type(books, "x");
            String call = "the last change, of kind " + kind;
            CHECKS.same(call, makeLast(books, kind), 249);
            CHECKS.isTrue(call + ", counts", books.counts(0, 249));
            CHECKS.isTrue(call + ", stands", books.stands(0, 249));
            CHECKS.same(call + ", holds", books.holds(0, 249) ? 1 : 0, kind == KindredBooks.JOIN ? 1 : 0);
            CHECKS.same(call + ", heard", books.hear(1, 0), 250);
            int[] groups = {250, 249, 248, 249, 249, 248, 248};
            CHECKS.same(call + ", groups", books.groups(1), groups[kind]);
            CHECKS.same(call + ", the last group", books.groupAt(1, groups[kind] - 1), kind == KindredBooks.ENTRY ? 249 : 248);
            CHECKS.same(call + ", shown", books.shown(1, 0, KindredBooks.NOTE), kind == KindredBooks.LINE ? 1 : 0);
            if (kind == KindredBooks.ENTRY) {
                CHECKS.same("values of the last entry", books.values(0, 249, KindredBooks.NAME), 0);
                CHECKS.same("group of the last entry", books.groupOf(0, 249), 249);
                CHECKS.same("likeness of the last entry", books.likeness(0, 249, 0), 0);
                CHECKS.same("path of the last entry", books.path(0, 249, 249, 0), 249);
            }
        }
    }

    private static int makeLast(KindredBooks books, int kind) {
        switch (kind) {
            case KindredBooks.ENTRY:
                return books.entry(0);
            case KindredBooks.LINE:
                return books.line(0, 0, KindredBooks.NOTE);
            case KindredBooks.GONE:
                return books.gone(0, 1);
            case KindredBooks.BACK:
                return books.back(0, 1);
            default:
                return make(books, kind, 0, 2, 1);
        }
    }

    /** With 250 changes each call that would make one throws, behind all else that it throws. */
    private static void fullBooks() {
        KindredBooks books = new KindredBooks();
        int one = books.entry(0);
        int other = books.entry(0);
        Checks.fill(books);
        Checks.type(books, "Ann");
        String before = Checks.form(books, 0, 0) + books.known(0) + books.changes();
        CHECKS.throwsA("entry", Checks.STATE, () -> books.entry(0));
        CHECKS.throwsA("line", Checks.STATE, () -> books.line(0, one, 0));
        CHECKS.throwsA("line with no such kind", Checks.ARGUMENT, () -> books.line(0, one, 5));
        CHECKS.throwsA("line of no entry", Checks.ELEMENT, () -> books.line(0, 249, 0));
        CHECKS.throwsA("join", Checks.STATE, () -> books.join(0, one, other));
        CHECKS.throwsA("join of one", Checks.ARGUMENT, () -> books.join(0, one, one));
        CHECKS.throwsA("never", Checks.STATE, () -> books.never(0, one, other));
        CHECKS.throwsA("never of no entry", Checks.ELEMENT, () -> books.never(0, one, 250));
        CHECKS.throwsA("member", Checks.STATE, () -> books.member(0, one, other));
        CHECKS.throwsA("gone", Checks.STATE, () -> books.gone(0, one));
        CHECKS.throwsA("back", Checks.STATE, () -> books.back(0, one));
        CHECKS.throwsA("back of what is not known", Checks.ELEMENT, () -> books.back(1, one));
        CHECKS.throwsA("back of no change", Checks.INDEX, () -> books.back(0, 250));
        CHECKS.throwsA("undo", Checks.STATE, () -> books.undo(0));
        CHECKS.same("undo without one", books.undo(1), KindredBooks.NONE);
        CHECKS.same("hear", books.hear(1, 2), 248);
        CHECKS.same("the text stays", books.clearText(), 3);
        CHECKS.same("nothing changes", Checks.form(books, 0, 0) + books.known(0) + books.changes(), before);
        CHECKS.isTrue("nothing is taken back", books.counts(0, one) && books.stands(0, other));
    }
}
