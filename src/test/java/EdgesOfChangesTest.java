import java.util.function.ToIntFunction;

/** The edges of section 2 of the document, and of promises 5 to 19: one test for each sentence. */
public final class EdgesOfChangesTest {
    private static final Checks CHECKS = new Checks("EdgesOfChangesTest");

    public static void main(String[] args) {
        threeBooksWithTheirHands();
        numbersGoOnInWhateverBook();
        changesOfOneCallToAnother();
        atMostTwoHundredAndFifty();
        undoAtTwoHundredAndFifty();
        countIsOneAtFirst();
        countIsOneMoreThanTheGreatestKnown();
        countOfEachKindGoesOn();
        countStaysAtHearing();
        greaterCountIsLater();
        greaterHandIsLaterOfLikeCounts();
        hearingGoesThroughBooks();
        hearingItselfAndNothing();
        hearingTellsHowManyAreNew();
        namesOnlyWhatIsKnown();
        countsUnlessTakenBack();
        countsAsBacksAreTakenBack();
        twoBacksOfOneChange();
        liveIfEntryCountsAndNotGone();
        twoGonesOfOneEntry();
        goneEntryTakenBack();
        lineStandsWithItsEntry();
        pairsStandWithBothEntries();
        othersStandIfTheyCount();
        undoTakesTheLatestOwn();
        undoPassesOverBacks();
        undoPassesOverWhatCountsNoMore();
        undoOfEachKind();
        undoOfAWholeBook();
        tellsOfEachKind();
        knownFromNothingToAll();
        holdsOnlyJoins();
        lastCallOfAnObject();
        CHECKS.end();
    }

    private static void count(KindredBooks books, int change, int due) {
        CHECKS.same("count of " + change, books.change(change, 2), due);
    }

    /** "There are three books, each kept by the hand with its number." */
    private static void threeBooksWithTheirHands() {
        KindredBooks books = new KindredBooks();
        for (int book = 0; book < 3; book++) {
            CHECKS.same("entry of book " + book, books.entry(book), book);
            CHECKS.same("its hand", books.change(book, 1), book);
        }
        CHECKS.throwsA("book -1", Checks.INDEX, () -> books.entry(-1));
        CHECKS.throwsA("book 3", Checks.INDEX, () -> books.entry(3));
    }

    /** "The changes are numbered in the order in which they are made, in whatever book". */
    private static void numbersGoOnInWhateverBook() {
        KindredBooks books = new KindredBooks();
        for (int i = 0; i < 30; i++) {
            CHECKS.same("entry " + i, books.entry((i * i) % 3), i);
            CHECKS.same("changes()", books.changes(), i + 1);
        }
    }

    /** What is made by undo() and readIn() has the next numbers, too; hear() makes none. */
    private static void changesOfOneCallToAnother() {
        KindredBooks books = new KindredBooks();
        books.entry(0);
        books.undo(0);
        CHECKS.same("behind undo()", books.changes(), 2);
        Checks.type(books, "n:a;t:b.");
        books.readIn(1);
        CHECKS.same("behind readIn()", books.changes(), 5);
        books.hear(2, 1);
        books.hear(0, 1);
        CHECKS.same("behind hear()", books.changes(), 5);
        CHECKS.same("the next one", books.entry(2), 5);
    }

    /** With entries 0 to 3 and a line in the first book, and entries of the last book up to a number of changes. */
    private static KindredBooks filled(int changes) {
        KindredBooks books = new KindredBooks();
        for (int i = 0; i < 4; i++) {
            books.entry(0);
        }
        Checks.line(books, 0, 0, KindredBooks.NOTE, "x");
        Checks.fill(books, changes);
        return books;
    }

    private static void isLast(String name, ToIntFunction<KindredBooks> call, int due) {
        KindredBooks last = filled(249);
        Checks.type(last, "t:y.");
        last.clearText();
        Checks.type(last, "y");
        CHECKS.same(name + " with 249 changes", call.applyAsInt(last), due);
        CHECKS.same(name + " with 249 changes, changes()", last.changes(), 250);
        CHECKS.isTrue(name + " with 249 changes, counts", last.counts(0, 249));
        KindredBooks full = filled(250);
        Checks.type(full, "y");
        long before = full.digest(0);
        CHECKS.throwsA(name + " with 250 changes", Checks.STATE, () -> call.applyAsInt(full));
        CHECKS.same(name + " with 250 changes, changes()", full.changes(), 250);
        CHECKS.same(name + " with 250 changes, known()", full.known(0), 5);
        CHECKS.same(name + " with 250 changes, digest()", full.digest(0), before);
        CHECKS.same(name + " with 250 changes, the text", full.type(0), 1);
    }

    /** "there are at most 250": the 250th change is made, a 251st is not, of whatever kind. */
    private static void atMostTwoHundredAndFifty() {
        isLast("entry", books -> books.entry(0), 249);
        isLast("line", books -> books.line(0, 0, KindredBooks.NOTE), 249);
        isLast("join", books -> books.join(0, 0, 1), 249);
        isLast("never", books -> books.never(0, 0, 1), 249);
        isLast("member", books -> books.member(0, 0, 1), 249);
        isLast("gone", books -> books.gone(0, 0), 249);
        isLast("back", books -> books.back(0, 0), 249);
        isLast("undo", books -> books.undo(0), 4);
        KindredBooks nearly = filled(248);
        Checks.type(nearly, "t:y.");
        CHECKS.same("a card with 248 changes", nearly.readIn(0), 1);
        CHECKS.same("two more", nearly.changes(), 250);
        KindredBooks over = filled(249);
        Checks.type(over, "t:y.");
        CHECKS.throwsA("a card with 249 changes", Checks.STATE, () -> over.readIn(0));
        CHECKS.same("none more", over.changes(), 249);
    }

    /** "Throws IllegalStateException if there are 250 changes, and there is one"; otherwise NONE. */
    private static void undoAtTwoHundredAndFifty() {
        KindredBooks books = filled(250);
        CHECKS.same("a book without changes", books.undo(1), KindredBooks.NONE);
        books.hear(1, 0);
        CHECKS.same("a book without own changes", books.undo(1), KindredBooks.NONE);
        CHECKS.throwsA("a book with one", Checks.STATE, () -> books.undo(0));
        CHECKS.throwsA("the book with the last one", Checks.STATE, () -> books.undo(2));
        CHECKS.throwsA("no book", Checks.INDEX, () -> books.undo(3));
        KindredBooks taken = new KindredBooks();
        taken.entry(0);
        taken.undo(0);
        Checks.fill(taken);
        CHECKS.same("a book whose changes are taken back", taken.undo(0), KindredBooks.NONE);
        CHECKS.isFalse("taken back", taken.counts(0, 0));
    }

    /** "1 more than the greatest count .., or 1": in each book by itself. */
    private static void countIsOneAtFirst() {
        KindredBooks books = new KindredBooks();
        for (int book = 2; book >= 0; book--) {
            int first = books.entry(book);
            count(books, first, 1);
            count(books, books.entry(book), 2);
        }
        CHECKS.same("changes", books.changes(), 6);
    }

    /** "1 more than the greatest count of all changes that its book knows then": not of those that it does not know. */
    private static void countIsOneMoreThanTheGreatestKnown() {
        KindredBooks books = new KindredBooks();
        for (int i = 1; i <= 5; i++) {
            count(books, books.entry(0), i);
        }
        count(books, books.entry(1), 1);
        books.hear(2, 1);
        count(books, books.entry(2), 2);
        books.hear(2, 0);
        count(books, books.entry(2), 6);
        // a book that hears lesser counts goes on from its own
        count(books, books.entry(0), 6);
        books.hear(0, 1);
        count(books, books.entry(0), 7);
        books.hear(1, 2);
        count(books, books.entry(1), 7);
    }

    /** Changes of each kind have counts, and those that do not count any more are the greatest ones, too. */
    private static void countOfEachKindGoesOn() {
        KindredBooks books = new KindredBooks();
        books.entry(0);
        books.entry(0);
        count(books, Checks.line(books, 0, 0, KindredBooks.NOTE, "x"), 3);
        count(books, books.join(0, 0, 1), 4);
        count(books, books.never(0, 0, 1), 5);
        count(books, books.member(0, 0, 1), 6);
        count(books, books.gone(0, 1), 7);
        int back = books.back(0, 6);
        count(books, back, 8);
        count(books, books.back(0, back), 9);
        CHECKS.isFalse("it counts no more", books.counts(0, back));
        books.hear(1, 0);
        count(books, books.entry(1), 10);
        books.undo(1);
        count(books, 10, 11);
        Checks.type(books, "t:a;t:b.");
        books.readIn(1);
        for (int i = 11; i <= 13; i++) {
            count(books, i, i + 1);
        }
    }

    /** A count is that of the time when the change is made. */
    private static void countStaysAtHearing() {
        KindredBooks books = new KindredBooks();
        int one = books.entry(1);
        for (int i = 0; i < 4; i++) {
            books.entry(0);
        }
        books.hear(1, 0);
        books.hear(0, 1);
        count(books, one, 1);
        count(books, 4, 4);
    }

    private static int name(KindredBooks books, int book, String text) {
        return Checks.line(books, book, 0, KindredBooks.NAME, text);
    }

    /** "Of two changes the one with the greater count is the later one": whatever the hands and numbers are. */
    private static void greaterCountIsLater() {
        KindredBooks books = new KindredBooks();
        books.entry(0);
        books.hear(2, 0);
        int first = name(books, 0, "a");
        int second = name(books, 0, "b");
        int other = name(books, 2, "c");
        CHECKS.isTrue("its number is the greatest", other > second);
        books.hear(0, 2);
        CHECKS.same("the greater count of the lesser hand", books.shownAt(0, 0, KindredBooks.NAME, 0), second);
        int more = name(books, 2, "d");
        int most = name(books, 2, "e");
        CHECKS.isTrue("numbers", more < most);
        books.hear(0, 2);
        CHECKS.same("the greatest count", books.shownAt(0, 0, KindredBooks.NAME, 0), most);
        CHECKS.same("the first one's count", books.change(first, 2), books.change(other, 2));
    }

    /** "of like counts the one whose hand has the greater number": in whatever order they are made and heard. */
    private static void greaterHandIsLaterOfLikeCounts() {
        for (int one = 0; one < 3; one++) {
            for (int other = 0; other < 3; other++) {
                if (one != other) {
                    KindredBooks books = new KindredBooks();
                    books.entry(one);
                    books.hear(other, one);
                    int left = name(books, one, "a");
                    int right = name(books, other, "b");
                    CHECKS.same("like counts", books.change(left, 2), books.change(right, 2));
                    books.hear(one, other);
                    books.hear(other, one);
                    int due = one > other ? left : right;
                    CHECKS.same("shown by hand " + one, books.shownAt(one, 0, KindredBooks.NAME, 0), due);
                    CHECKS.same("shown by hand " + other, books.shownAt(other, 0, KindredBooks.NAME, 0), due);
                }
            }
        }
    }

    /** "to hear another book is to know all that this one knows, too": what it heard itself, but not what it learns later. */
    private static void hearingGoesThroughBooks() {
        KindredBooks books = new KindredBooks();
        int entry = books.entry(0);
        CHECKS.same("the second hears the first", books.hear(1, 0), 1);
        CHECKS.same("the third hears the second", books.hear(2, 1), 1);
        CHECKS.isTrue("the third knows it", books.counts(2, entry));
        int later = books.entry(0);
        CHECKS.isFalse("the second does not know the later one", books.counts(1, later));
        CHECKS.same("the third hears nothing new", books.hear(2, 1), 0);
        CHECKS.same("the first hears nothing new", books.hear(0, 2), 0);
        CHECKS.same("the third knows one", books.known(2), 1);
        CHECKS.same("the third hears the first", books.hear(2, 0), 1);
        CHECKS.same("the second hears the third", books.hear(1, 2), 1);
        CHECKS.isTrue("all agree", books.agree(0, 1) && books.agree(1, 2));
    }

    /** A book that hears itself, or one that knows nothing, or the same, knows nothing more. */
    private static void hearingItselfAndNothing() {
        KindredBooks books = new KindredBooks();
        CHECKS.same("nothing of nothing", books.hear(0, 1), 0);
        CHECKS.same("itself, empty", books.hear(2, 2), 0);
        books.entry(0);
        CHECKS.same("itself", books.hear(0, 0), 0);
        CHECKS.same("an empty one", books.hear(0, 1), 0);
        CHECKS.same("a full one", books.hear(1, 0), 1);
        CHECKS.same("it again", books.hear(1, 0), 0);
        CHECKS.same("the other way", books.hear(0, 1), 0);
        CHECKS.same("known", books.known(0), 1);
    }

    /** "Returns how many changes it knows by that that it did not know": from 1 to 250. */
    private static void hearingTellsHowManyAreNew() {
        KindredBooks books = new KindredBooks();
        books.entry(1);
        books.entry(0);
        books.entry(0);
        books.entry(1);
        CHECKS.same("two of four", books.hear(1, 0), 2);
        CHECKS.same("four", books.known(1), 4);
        books.entry(1);
        CHECKS.same("three of five", books.hear(0, 1), 3);
        KindredBooks full = new KindredBooks();
        Checks.fill(full);
        CHECKS.same("all 250", full.hear(0, 2), 250);
        CHECKS.same("known", full.known(0), 250);
        CHECKS.isTrue("the last one counts", full.counts(0, 249));
        CHECKS.same("all again", full.hear(0, 2), 0);
    }

    /** "A change that names others can be made only in a book that knows these." */
    private static void namesOnlyWhatIsKnown() {
        KindredBooks books = new KindredBooks();
        int own = books.entry(0);
        int foreign = books.entry(1);
        Checks.type(books, "x");
        CHECKS.throwsA("line", Checks.ELEMENT, () -> books.line(0, foreign, KindredBooks.NOTE));
        CHECKS.throwsA("join", Checks.ELEMENT, () -> books.join(0, own, foreign));
        CHECKS.throwsA("join the other way", Checks.ELEMENT, () -> books.join(0, foreign, own));
        CHECKS.throwsA("never", Checks.ELEMENT, () -> books.never(0, own, foreign));
        CHECKS.throwsA("never the other way", Checks.ELEMENT, () -> books.never(0, foreign, own));
        CHECKS.throwsA("member", Checks.ELEMENT, () -> books.member(0, own, foreign));
        CHECKS.throwsA("member the other way", Checks.ELEMENT, () -> books.member(0, foreign, own));
        CHECKS.throwsA("gone", Checks.ELEMENT, () -> books.gone(0, foreign));
        CHECKS.throwsA("back", Checks.ELEMENT, () -> books.back(0, foreign));
        books.hear(0, 1);
        CHECKS.same("line", books.line(0, foreign, KindredBooks.NOTE), 2);
        CHECKS.same("join", books.join(0, own, foreign), 3);
        CHECKS.same("never", books.never(0, foreign, own), 4);
        CHECKS.same("member", books.member(0, foreign, own), 5);
        CHECKS.same("gone", books.gone(0, foreign), 6);
        CHECKS.same("back", books.back(0, foreign), 7);
        // the other book does not know the line that names its own entry
        CHECKS.throwsA("back of what was made elsewhere", Checks.ELEMENT, () -> books.back(1, 2));
    }

    /** "In a book a change counts if the book knows it, and knows no BACK of it that counts." */
    private static void countsUnlessTakenBack() {
        KindredBooks books = new KindredBooks();
        int entry = books.entry(0);
        CHECKS.isFalse("not known", books.counts(1, entry));
        CHECKS.isTrue("known", books.counts(0, entry));
        books.hear(1, 0);
        int back = books.back(0, entry);
        CHECKS.isFalse("taken back", books.counts(0, entry));
        CHECKS.isTrue("the BACK", books.counts(0, back));
        CHECKS.isTrue("where the BACK is not known", books.counts(1, entry));
        CHECKS.isFalse("the BACK where it is not known", books.counts(1, back));
        books.hear(1, 0);
        CHECKS.isFalse("where the BACK is heard", books.counts(1, entry));
        CHECKS.isTrue("the BACK where it is heard", books.counts(1, back));
    }

    /** A BACK of a BACK, and so on: each that is even makes the change count again. */
    private static void countsAsBacksAreTakenBack() {
        KindredBooks books = new KindredBooks();
        int entry = books.entry(0);
        int last = entry;
        for (int i = 1; i < 12; i++) {
            last = books.back(0, last);
            CHECKS.same("the entry behind " + i + " BACKs", books.counts(0, entry) ? 1 : 0, i % 2 == 0 ? 1 : 0);
            CHECKS.same("the first BACK behind " + i, books.counts(0, 1) ? 1 : 0, i % 2);
            int passed = last - 1;
            CHECKS.throwsA("the one ahead of the last", Checks.ELEMENT, () -> books.back(0, passed));
        }
        books.hear(2, 0);
        CHECKS.isFalse("heard at once", books.counts(2, entry));
    }

    /** "knows no BACK of it that counts": of two BACKs by two hands both must be taken back. */
    private static void twoBacksOfOneChange() {
        KindredBooks books = new KindredBooks();
        int entry = books.entry(0);
        books.hear(1, 0);
        int one = books.back(0, entry);
        int other = books.back(1, entry);
        books.hear(2, 0);
        books.hear(2, 1);
        CHECKS.isFalse("taken back twice", books.counts(2, entry));
        books.back(2, one);
        CHECKS.isFalse("one is left", books.counts(2, entry));
        CHECKS.throwsA("it does not count", Checks.ELEMENT, () -> books.back(2, entry));
        books.back(2, other);
        CHECKS.isTrue("none is left", books.counts(2, entry));
        CHECKS.same("it can be taken back", books.back(2, entry), 5);
    }

    /** "An entry is live if its ENTRY counts, and no GONE of it counts." */
    private static void liveIfEntryCountsAndNotGone() {
        KindredBooks books = new KindredBooks();
        int entry = books.entry(0);
        CHECKS.same("live", books.groupOf(0, entry), entry);
        int gone = books.gone(0, entry);
        CHECKS.throwsA("gone", Checks.ELEMENT, () -> books.groupOf(0, entry));
        CHECKS.isTrue("gone, and counts", books.counts(0, entry));
        int back = books.back(0, gone);
        CHECKS.same("live again", books.groupOf(0, entry), entry);
        books.back(0, back);
        CHECKS.throwsA("gone again", Checks.ELEMENT, () -> books.groupOf(0, entry));
        CHECKS.same("undo of the GONE", books.undo(0), gone);
        CHECKS.same("live once more", books.groupOf(0, entry), entry);
        CHECKS.same("undo of the ENTRY", books.undo(0), entry);
        CHECKS.throwsA("taken back", Checks.ELEMENT, () -> books.groupOf(0, entry));
        int line = Checks.named(books, 0, "Ann") + 1;
        CHECKS.throwsA("a LINE is no entry", Checks.ELEMENT, () -> books.groupOf(0, line));
        CHECKS.throwsA("a GONE is no entry", Checks.ELEMENT, () -> books.groupOf(0, gone));
        CHECKS.throwsA("a BACK is no entry", Checks.ELEMENT, () -> books.groupOf(0, back));
    }

    /** "no GONE of it counts": of two GONEs by two hands both must be taken back. */
    private static void twoGonesOfOneEntry() {
        KindredBooks books = new KindredBooks();
        int entry = books.entry(0);
        books.hear(1, 0);
        int one = books.gone(0, entry);
        int other = books.gone(1, entry);
        books.hear(2, 0);
        books.hear(2, 1);
        books.back(2, one);
        CHECKS.isFalse("one is left", books.stands(2, entry));
        books.back(2, other);
        CHECKS.isTrue("none is left", books.stands(2, entry));
        CHECKS.same("it can be gone again", books.gone(2, entry), 5);
    }

    /** An entry that is gone and whose ENTRY is taken back needs both to be live. */
    private static void goneEntryTakenBack() {
        KindredBooks books = new KindredBooks();
        int entry = books.entry(0);
        int gone = books.gone(0, entry);
        int back = books.back(0, entry);
        CHECKS.isFalse("neither", books.stands(0, entry));
        CHECKS.isTrue("the GONE counts and stands", books.counts(0, gone) && books.stands(0, gone));
        books.back(0, gone);
        CHECKS.isFalse("not gone, but taken back", books.stands(0, entry));
        books.back(0, back);
        CHECKS.isTrue("live", books.stands(0, entry));
    }

    /** "A line stands if it counts and its entry is live". */
    private static void lineStandsWithItsEntry() {
        KindredBooks books = new KindredBooks();
        int entry = books.entry(0);
        int line = Checks.line(books, 0, entry, KindredBooks.NOTE, "x");
        CHECKS.isTrue("stands", books.stands(0, line));
        CHECKS.isFalse("stands where it is not known", books.stands(1, line));
        int gone = books.gone(0, entry);
        CHECKS.isTrue("counts, of what is gone", books.counts(0, line));
        CHECKS.isFalse("stands, of what is gone", books.stands(0, line));
        // a line whose entry is not live can be taken back: it counts
        int back = books.back(0, line);
        books.back(0, gone);
        CHECKS.isFalse("stands, taken back", books.stands(0, line));
        CHECKS.same("shown, taken back", books.shown(0, entry, KindredBooks.NOTE), 0);
        books.back(0, back);
        CHECKS.isTrue("stands again", books.stands(0, line));
        CHECKS.same("shown again", books.shown(0, entry, KindredBooks.NOTE), 1);
    }

    /** "JOIN, NEVER and MEMBER stand if they count and both entries are live." */
    private static void pairsStandWithBothEntries() {
        for (int kind = KindredBooks.JOIN; kind <= KindredBooks.MEMBER; kind++) {
            KindredBooks books = new KindredBooks();
            int one = books.entry(0);
            int other = books.entry(0);
            int pair = kind == KindredBooks.JOIN ? books.join(0, one, other)
                : kind == KindredBooks.NEVER ? books.never(0, one, other) : books.member(0, one, other);
            CHECKS.isTrue("stands", books.stands(0, pair));
            int goneOne = books.gone(0, one);
            CHECKS.isFalse("without the one", books.stands(0, pair));
            int goneOther = books.gone(0, other);
            books.back(0, goneOne);
            CHECKS.isFalse("without the other", books.stands(0, pair));
            books.back(0, goneOther);
            CHECKS.isTrue("with both", books.stands(0, pair));
            books.back(0, pair);
            CHECKS.isFalse("taken back", books.stands(0, pair));
            books.undo(0);
            CHECKS.isTrue("a BACK is not undone: the other entry is", books.stands(0, one) && !books.stands(0, other));
        }
    }

    /** "others, if they count": GONE and BACK. */
    private static void othersStandIfTheyCount() {
        KindredBooks books = new KindredBooks();
        int entry = books.entry(0);
        int gone = books.gone(0, entry);
        CHECKS.isTrue("a GONE", books.stands(0, gone));
        int taken = books.back(0, entry);
        CHECKS.isTrue("a GONE of what is taken back", books.stands(0, gone));
        CHECKS.isTrue("a BACK", books.stands(0, taken));
        int back = books.back(0, gone);
        CHECKS.isFalse("a GONE that is taken back", books.stands(0, gone));
        int more = books.back(0, back);
        CHECKS.isFalse("a BACK that is taken back", books.stands(0, back));
        CHECKS.isTrue("the GONE again", books.stands(0, gone));
        CHECKS.isTrue("the last BACK", books.stands(0, more));
        CHECKS.isFalse("a BACK that is not known", books.stands(2, more));
    }

    /** "the latest change that was made in a book, counts in it": not one that was made in another one. */
    private static void undoTakesTheLatestOwn() {
        KindredBooks books = new KindredBooks();
        int first = books.entry(0);
        int second = books.entry(0);
        books.hear(1, 0);
        int foreign = books.entry(1);
        books.hear(0, 1);
        CHECKS.same("the later count is another one's", books.change(foreign, 2), 3);
        CHECKS.same("undo", books.undo(0), second);
        CHECKS.same("its BACK", books.change(3, 3), second);
        CHECKS.same("its BACK's hand", books.change(3, 1), 0);
        CHECKS.isTrue("the other one's counts", books.counts(0, foreign));
        CHECKS.same("undo again", books.undo(0), first);
        CHECKS.same("and again", books.undo(0), KindredBooks.NONE);
        CHECKS.same("and no change is made", books.changes(), 5);
        CHECKS.same("in the other one", books.undo(1), foreign);
        CHECKS.same("where there is none", books.undo(2), KindredBooks.NONE);
    }

    /** "and is no BACK": what was taken back stays so. */
    private static void undoPassesOverBacks() {
        KindredBooks books = new KindredBooks();
        int entry = books.entry(0);
        int line = Checks.line(books, 0, entry, KindredBooks.NOTE, "x");
        books.back(0, line);
        CHECKS.same("undo", books.undo(0), entry);
        CHECKS.isFalse("the line counts", books.counts(0, line));
        CHECKS.same("no more", books.undo(0), KindredBooks.NONE);
        // a BACK of the BACK, and it is the latest one that counts again
        books.back(0, 2);
        CHECKS.same("undo what counts again", books.undo(0), line);
    }

    /** "counts in it": a BACK by another hand that is heard takes it away, one that is not heard does not. */
    private static void undoPassesOverWhatCountsNoMore() {
        KindredBooks books = new KindredBooks();
        int first = books.entry(0);
        int second = books.entry(0);
        books.hear(1, 0);
        books.back(1, second);
        CHECKS.same("not heard", books.undo(0), second);
        books.back(0, books.changes() - 1);
        CHECKS.isTrue("counts again", books.counts(0, second));
        books.hear(0, 1);
        CHECKS.isFalse("taken back elsewhere", books.counts(0, second));
        CHECKS.same("heard", books.undo(0), first);
        // an entry that is gone counts
        int third = books.entry(0);
        int gone = books.gone(0, third);
        CHECKS.same("the GONE", books.undo(0), gone);
        CHECKS.same("the entry", books.undo(0), third);
        CHECKS.same("none", books.undo(0), KindredBooks.NONE);
    }

    /** Each kind but BACK can be undone, and what it did with it. */
    private static void undoOfEachKind() {
        KindredBooks books = new KindredBooks();
        int one = books.entry(0);
        int other = books.entry(0);
        int[] made = {one, other, Checks.line(books, 0, one, KindredBooks.NAME, "Ann"), books.join(0, one, other),
            books.member(0, one, other), books.never(0, one, other), books.gone(0, other)};
        for (int i = made.length - 1; i >= 0; i--) {
            CHECKS.same("undo of kind " + books.change(made[i], 0), books.undo(0), made[i]);
            CHECKS.isFalse("counts", books.counts(0, made[i]));
        }
        CHECKS.same("none is left", books.undo(0), KindredBooks.NONE);
        CHECKS.same("groups", books.groups(0), 0);
        CHECKS.same("changes", books.changes(), 14);
    }

    /** 125 changes are undone, one by one, up to the 250th change. */
    private static void undoOfAWholeBook() {
        KindredBooks books = new KindredBooks();
        for (int i = 0; i < 125; i++) {
            books.entry(1);
        }
        for (int i = 124; i >= 0; i--) {
            CHECKS.same("undo", books.undo(1), i);
        }
        CHECKS.same("changes", books.changes(), 250);
        CHECKS.same("none, and no change is made", books.undo(1), KindredBooks.NONE);
        CHECKS.same("none counts but the BACKs", Math.round(books.countShare(1) * 250), 125);
    }

    private static void tells(KindredBooks books, int change, int... due) {
        for (int what = 0; what < 6; what++) {
            CHECKS.same("change " + change + ", what " + what, books.change(change, what), due[what]);
        }
        CHECKS.throwsA("what -1", Checks.ARGUMENT, () -> books.change(change, -1));
        CHECKS.throwsA("what 6", Checks.ARGUMENT, () -> books.change(change, 6));
    }

    /** "Returns this; NONE (of 5: 0) if it has none": each kind of change, each thing. */
    private static void tellsOfEachKind() {
        KindredBooks books = new KindredBooks();
        CHECKS.throwsA("no change at all", Checks.INDEX, () -> books.change(0, 0));
        books.entry(1);
        books.entry(1);
        tells(books, 0, KindredBooks.ENTRY, 1, 1, -1, -1, 0);
        for (int kind = 0; kind <= KindredBooks.NOTE; kind++) {
            String text = kind == KindredBooks.DAY ? "2000-01-01" : "abcd".substring(kind > 3 ? 0 : kind);
            tells(books, Checks.line(books, 1, 1, kind, text), KindredBooks.LINE, 1, 3 + kind, 1, kind, text.length());
        }
        tells(books, Checks.line(books, 1, 0, 4, "1234567890".repeat(4)), KindredBooks.LINE, 1, 8, 0, 4, 40);
        tells(books, books.join(1, 1, 0), KindredBooks.JOIN, 1, 9, 1, 0, 0);
        tells(books, books.never(1, 0, 1), KindredBooks.NEVER, 1, 10, 0, 1, 0);
        tells(books, books.member(1, 1, 0), KindredBooks.MEMBER, 1, 11, 1, 0, 0);
        tells(books, books.gone(1, 0), KindredBooks.GONE, 1, 12, 0, -1, 0);
        tells(books, books.back(1, 11), KindredBooks.BACK, 1, 13, 11, -1, 0);
        tells(books, books.back(1, 12), KindredBooks.BACK, 1, 14, 12, -1, 0);
        tells(books, 7, KindredBooks.LINE, 1, 8, 0, 4, 40);
        CHECKS.throwsA("the change behind the last one", Checks.INDEX, () -> books.change(14, 0));
    }

    /** "Counts the changes that a book knows": from 0 to 250, those that do not count, too. */
    private static void knownFromNothingToAll() {
        KindredBooks books = new KindredBooks();
        for (int i = 0; i < 250; i++) {
            books.entry(0);
        }
        CHECKS.same("the first", books.known(0), 250);
        CHECKS.same("the second", books.known(1), 0);
        books.hear(1, 0);
        CHECKS.same("the second behind hearing", books.known(1), 250);
        KindredBooks taken = new KindredBooks();
        taken.entry(0);
        taken.undo(0);
        CHECKS.same("what is taken back, and the BACK", taken.known(0), 2);
    }

    /** "Tells whether a change is a JOIN that holds in a book": of all other kinds false. */
    private static void holdsOnlyJoins() {
        KindredBooks books = new KindredBooks();
        int one = books.entry(0);
        int other = books.entry(0);
        int third = books.entry(0);
        int line = Checks.line(books, 0, one, KindredBooks.NAME, "Ann");
        int join = books.join(0, one, other);
        int never = books.never(0, one, third);
        int member = books.member(0, one, third);
        int forbidden = books.join(0, other, third);
        int gone = books.gone(0, third);
        int back = books.back(0, gone);
        for (int change = 0; change < books.changes(); change++) {
            CHECKS.same("holds(0, " + change + ")", books.holds(0, change) ? 1 : 0, change == join ? 1 : 0);
            CHECKS.isFalse("holds(1, " + change + ")", books.holds(1, change));
        }
        CHECKS.isTrue("stands, but does not hold", books.stands(0, forbidden));
        CHECKS.isTrue("stand", books.stands(0, line) && books.stands(0, never) && books.stands(0, member) && books.stands(0, back));
        books.back(0, join);
        CHECKS.isFalse("taken back", books.holds(0, join));
    }

    /** "An object is used for at most 512 calls": the last one of these is answered as the first one. */
    private static void lastCallOfAnObject() {
        KindredBooks books = new KindredBooks();
        for (int i = 0; i < 250; i++) {
            books.entry(i % 2);
        }
        for (int i = 0; i < 130; i++) {
            CHECKS.same("hear", books.hear(0, 1), i == 0 ? 125 : 0);
            CHECKS.same("clearText", books.clearText(), 0);
        }
        CHECKS.same("call 511", books.known(0), 250);
        CHECKS.same("call 512", books.groups(0), 250);
    }
}
