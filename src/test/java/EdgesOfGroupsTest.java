/** The edges of section 4 of the document, and of promises 20 to 28: one test for each sentence. */
public final class EdgesOfGroupsTest {
    private static final Checks CHECKS = new Checks("EdgesOfGroupsTest");

    public static void main(String[] args) {
        joinsAreGoneThroughByCounts();
        joinsAreGoneThroughByHands();
        joinHoldsWithinAGroup();
        neverForbidsThroughOthers();
        neverThatComesLater();
        neverThatStandsNoMore();
        neverOfTheJoinsThatHoldAhead();
        joinThatStandsNoMore();
        numberIsTheLeastEntry();
        groupsOfNothingAndOfAll();
        groupAtFromTheFirstToTheLast();
        sizesFromOneToAll();
        pathOfOneEntry();
        pathOfTwoThatAreNotTheSame();
        pathHasTheFewestEntries();
        pathIsTheLeastOfSeveral();
        pathGoesByJoinsThatHold();
        longestPath();
        forbidsOfGroups();
        forbidsTheEarliest();
        forbidsNothing();
        shownNameAndDayAreTheLatest();
        shownValuesAreTheEarliest();
        shownInTheirOrder();
        shownOfNothing();
        shownOfAllLines();
        valuesThatAreNotShown();
        otherBooksDoNotMatter();
        CHECKS.end();
    }

    private static KindredBooks ofEntries(int entries) {
        KindredBooks books = new KindredBooks();
        for (int i = 0; i < entries; i++) {
            books.entry(0);
        }
        return books;
    }

    /** "gone through from the earliest to the latest": the lesser count goes ahead, whatever the numbers and hands are. */
    private static void joinsAreGoneThroughByCounts() {
        KindredBooks books = ofEntries(3);
        books.hear(1, 0);
        int late = books.join(0, 0, 1);
        for (int i = 0; i < 3; i++) {
            CHECKS.same("an entry", books.entry(0), late + 1 + i);
        }
        int latest = books.join(0, 1, 0);
        int never = books.never(0, 0, 2);
        int early = books.join(1, 1, 2);
        CHECKS.isTrue("the greater number has the lesser count", books.change(early, 2) < books.change(latest, 2));
        CHECKS.same("a like count", books.change(late, 2), books.change(early, 2));
        books.back(0, late);
        books.hear(0, 1);
        CHECKS.isTrue("the lesser count holds", books.holds(0, early));
        CHECKS.isFalse("the greater count holds", books.holds(0, latest));
        CHECKS.same("the groups", books.groupOf(0, 2), 1);
        books.back(0, never);
        CHECKS.isTrue("both hold", books.holds(0, early) && books.holds(0, latest));
    }

    /** Of JOINs of like counts the one of the lesser hand goes ahead: for each two hands, whichever is made first. */
    private static void joinsAreGoneThroughByHands() {
        for (int one = 0; one < 3; one++) {
            for (int other = 0; other < 3; other++) {
                if (one != other) {
                    KindredBooks books = ofEntries(3);
                    books.never(0, 0, 2);
                    books.hear(1, 0);
                    books.hear(2, 0);
                    int left = books.join(one, 0, 1);
                    int right = books.join(other, 1, 2);
                    books.hear(one, other);
                    books.hear(other, one);
                    for (int book : new int[] {one, other}) {
                        CHECKS.same("the JOIN of hand " + one, books.holds(book, left) ? 1 : 0, one < other ? 1 : 0);
                        CHECKS.same("the JOIN of hand " + other, books.holds(book, right) ? 1 : 0, one < other ? 0 : 1);
                    }
                }
            }
        }
    }

    /** "(also if both are in one group already)". */
    private static void joinHoldsWithinAGroup() {
        KindredBooks books = ofEntries(3);
        int first = books.join(0, 0, 1);
        int second = books.join(0, 1, 2);
        int within = books.join(0, 2, 0);
        int again = books.join(0, 1, 0);
        CHECKS.isTrue("all hold", books.holds(0, first) && books.holds(0, second) && books.holds(0, within) && books.holds(0, again));
        CHECKS.same("groups", books.groups(0), 1);
        books.back(0, first);
        CHECKS.same("groups without the first", books.groups(0), 1);
        books.back(0, again);
        CHECKS.same("groups without both of it", books.groups(0), 1);
        books.back(0, within);
        CHECKS.same("groups without the one within", books.groups(0), 2);
    }

    /** "can become one without two entries in it that are told by a NEVER": of entries that are not told by the JOIN. */
    private static void neverForbidsThroughOthers() {
        KindredBooks books = ofEntries(4);
        books.join(0, 0, 1);
        books.join(0, 2, 3);
        books.never(0, 0, 3);
        int join = books.join(0, 1, 2);
        CHECKS.isFalse("holds", books.holds(0, join));
        CHECKS.isTrue("stands", books.stands(0, join));
        CHECKS.same("groups", books.groups(0), 2);
        CHECKS.same("likeness", books.likeness(0, 1, 2), 0);
    }

    /** A NEVER that is later than a JOIN takes it away, as it stands. */
    private static void neverThatComesLater() {
        KindredBooks books = ofEntries(3);
        int join = books.join(0, 0, 1);
        int more = books.join(0, 1, 2);
        CHECKS.same("one group", books.groups(0), 1);
        books.never(0, 2, 0);
        CHECKS.isTrue("the first holds", books.holds(0, join));
        CHECKS.isFalse("the second holds", books.holds(0, more));
        int direct = books.never(0, 1, 0);
        CHECKS.isFalse("the first holds", books.holds(0, join));
        CHECKS.isTrue("the second holds instead", books.holds(0, more));
        CHECKS.same("forbids", books.forbids(0, 0, 1), direct - 1);
    }

    /** "told by a NEVER that stands": not by one that is taken back, or whose entry is gone, or that is not known. */
    private static void neverThatStandsNoMore() {
        KindredBooks books = ofEntries(3);
        int never = books.never(0, 0, 2);
        books.join(0, 0, 1);
        int join = books.join(0, 1, 2);
        CHECKS.isFalse("with the NEVER", books.holds(0, join));
        books.back(0, never);
        CHECKS.isTrue("taken back", books.holds(0, join));
        books.undo(0);
        CHECKS.isFalse("the JOIN is undone", books.counts(0, join));
        KindredBooks others = ofEntries(3);
        others.never(0, 0, 2);
        others.join(0, 0, 1);
        int held = others.join(0, 1, 2);
        int gone = others.gone(0, 0);
        CHECKS.isTrue("its entry is gone", others.holds(0, held));
        others.back(0, gone);
        CHECKS.isFalse("its entry is live again", others.holds(0, held));
        KindredBooks apart = ofEntries(2);
        apart.hear(1, 0);
        apart.never(1, 0, 1);
        int there = apart.join(0, 0, 1);
        CHECKS.isTrue("not known", apart.holds(0, there));
        apart.hear(0, 1);
        CHECKS.isFalse("known", apart.holds(0, there));
    }

    /** "the groups in which both entries are by those that hold ahead": one that does not hold does not put them there. */
    private static void neverOfTheJoinsThatHoldAhead() {
        KindredBooks books = ofEntries(4);
        books.never(0, 0, 2);
        int first = books.join(0, 0, 1);
        int second = books.join(0, 1, 2);
        int third = books.join(0, 2, 3);
        int fourth = books.join(0, 3, 0);
        CHECKS.isTrue("0 and 1", books.holds(0, first));
        CHECKS.isFalse("1 and 2, as 0 is with 1", books.holds(0, second));
        CHECKS.isTrue("2 and 3, as 2 is not with 1", books.holds(0, third));
        CHECKS.isFalse("3 and 0", books.holds(0, fourth));
        books.back(0, first);
        CHECKS.isTrue("1 and 2 without the first", books.holds(0, second));
        CHECKS.isFalse("3 and 0 all the same", books.holds(0, fourth));
    }

    /** "The JOINs that stand": one that is taken back, or whose entry is gone, joins nothing. */
    private static void joinThatStandsNoMore() {
        KindredBooks books = ofEntries(3);
        int join = books.join(0, 0, 1);
        books.join(0, 1, 2);
        CHECKS.same("one group", books.groups(0), 1);
        int gone = books.gone(0, 1);
        CHECKS.same("without the middle", books.groups(0), 2);
        CHECKS.same("the last by itself", books.groupOf(0, 2), 2);
        books.back(0, gone);
        CHECKS.same("with the middle", books.groups(0), 1);
        books.back(0, join);
        CHECKS.same("without the first JOIN", books.groupOf(0, 2), 1);
        CHECKS.same("the first by itself", books.sizeOf(0, 0), 1);
    }

    /** "the number of a group is the least one of its entries": of those that are live. */
    private static void numberIsTheLeastEntry() {
        KindredBooks books = ofEntries(4);
        books.join(0, 3, 2);
        CHECKS.same("of 2 and 3", books.groupOf(0, 3), 2);
        books.join(0, 3, 1);
        CHECKS.same("of 1 to 3", books.groupOf(0, 2), 1);
        books.join(0, 2, 0);
        for (int i = 0; i < 4; i++) {
            CHECKS.same("of 0 to 3", books.groupOf(0, i), 0);
        }
        books.gone(0, 0);
        CHECKS.same("without 0", books.groupOf(0, 3), 1);
        books.gone(0, 1);
        CHECKS.same("without 1", books.groupOf(0, 3), 2);
        CHECKS.same("the one group", books.groupAt(0, 0), 2);
    }

    /** "Counts the groups of a book": 0, 1 and 250. */
    private static void groupsOfNothingAndOfAll() {
        KindredBooks books = new KindredBooks();
        CHECKS.same("none", books.groups(0), 0);
        books.entry(0);
        CHECKS.same("one", books.groups(0), 1);
        books.gone(0, 0);
        CHECKS.same("none again", books.groups(0), 0);
        KindredBooks full = ofEntries(250);
        CHECKS.same("250", full.groups(0), 250);
        CHECKS.same("of a book that does not know them", full.groups(1), 0);
        CHECKS.same("the last one", full.groupAt(0, 249), 249);
        CHECKS.same("the first one", full.groupAt(0, 0), 0);
        CHECKS.throwsA("one more", Checks.INDEX, () -> full.groupAt(0, 250));
        CHECKS.same("the size of the last one", full.sizeOf(0, 249), 1);
        CHECKS.same("the group of the last one", full.groupOf(0, 249), 249);
        CHECKS.throwsA("the entry behind it", Checks.ELEMENT, () -> full.groupOf(0, 250));
    }

    /** "index: 0 for the one with the least number, and so on". */
    private static void groupAtFromTheFirstToTheLast() {
        KindredBooks books = ofEntries(7);
        books.join(0, 6, 1);
        books.join(0, 4, 3);
        books.gone(0, 0);
        int[] due = {1, 2, 3, 5};
        for (int i = 0; i < due.length; i++) {
            CHECKS.same("groupAt(0, " + i + ")", books.groupAt(0, i), due[i]);
        }
        CHECKS.same("groups", books.groups(0), due.length);
        CHECKS.throwsA("behind the last one", Checks.INDEX, () -> books.groupAt(0, 4));
        CHECKS.throwsA("ahead of the first one", Checks.INDEX, () -> books.groupAt(0, -1));
    }

    /** "Counts the entries of the group of an entry": those that are live. */
    private static void sizesFromOneToAll() {
        KindredBooks books = ofEntries(5);
        for (int i = 1; i < 5; i++) {
            CHECKS.same("alone", books.sizeOf(0, i), 1);
            books.join(0, i, i - 1);
            CHECKS.same("joined", books.sizeOf(0, 0), i + 1);
            CHECKS.same("the last one's", books.sizeOf(0, i), i + 1);
        }
        books.gone(0, 4);
        CHECKS.same("without the last one", books.sizeOf(0, 0), 4);
        books.gone(0, 1);
        CHECKS.same("cut off", books.sizeOf(0, 0), 1);
        CHECKS.same("the rest", books.sizeOf(0, 3), 2);
    }

    private static void isPath(KindredBooks books, int one, int other, int... due) {
        String call = "path(0, " + one + ", " + other + ", ";
        CHECKS.same(call + "NONE)", books.path(0, one, other, KindredBooks.NONE), due.length);
        for (int i = 0; i < due.length; i++) {
            CHECKS.same(call + i + ")", books.path(0, one, other, i), due[i]);
        }
        CHECKS.throwsA(call + due.length + ")", Checks.INDEX, () -> books.path(0, one, other, due.length));
        CHECKS.throwsA(call + "-2)", Checks.INDEX, () -> books.path(0, one, other, -2));
    }

    /** The row from an entry to itself has this entry alone. */
    private static void pathOfOneEntry() {
        KindredBooks books = ofEntries(2);
        isPath(books, 0, 0, 0);
        books.join(0, 0, 1);
        isPath(books, 0, 0, 0);
        isPath(books, 1, 1, 1);
        isPath(books, 0, 1, 0, 1);
        isPath(books, 1, 0, 1, 0);
    }

    /** "0 for how many if they are not the same". */
    private static void pathOfTwoThatAreNotTheSame() {
        KindredBooks books = ofEntries(3);
        books.join(0, 0, 1);
        isPath(books, 0, 2);
        isPath(books, 2, 1);
        CHECKS.throwsA("the least index", Checks.INDEX, () -> books.path(0, 0, 2, Integer.MIN_VALUE));
        CHECKS.throwsA("the greatest index", Checks.INDEX, () -> books.path(0, 0, 2, Integer.MAX_VALUE));
    }

    /** "with the fewest entries": though it has greater ones. */
    private static void pathHasTheFewestEntries() {
        KindredBooks books = ofEntries(6);
        books.join(0, 0, 1);
        books.join(0, 1, 2);
        books.join(0, 2, 3);
        isPath(books, 0, 3, 0, 1, 2, 3);
        books.join(0, 0, 5);
        books.join(0, 5, 3);
        isPath(books, 0, 3, 0, 5, 3);
        isPath(books, 3, 0, 3, 5, 0);
        books.join(0, 3, 0);
        isPath(books, 0, 3, 0, 3);
    }

    /** "of several the one whose first entry that is not the same is the least": not the least sum, nor the last one. */
    private static void pathIsTheLeastOfSeveral() {
        KindredBooks books = ofEntries(8);
        // from 0 to 7 by 2 and 6, by 3 and 1, by 2 and 5
        int[][] pairs = {{0, 3}, {3, 1}, {1, 7}, {0, 2}, {2, 6}, {6, 7}, {2, 5}, {5, 7}};
        for (int[] pair : pairs) {
            books.join(0, pair[0], pair[1]);
        }
        isPath(books, 0, 7, 0, 2, 5, 7);
        isPath(books, 7, 0, 7, 1, 3, 0);
        isPath(books, 3, 2, 3, 0, 2);
    }

    /** "each joined to the next one by a JOIN that holds". */
    private static void pathGoesByJoinsThatHold() {
        KindredBooks books = ofEntries(4);
        int first = books.join(0, 0, 1);
        books.join(0, 1, 2);
        books.never(0, 0, 3);
        int forbidden = books.join(0, 2, 3);
        isPath(books, 0, 2, 0, 1, 2);
        isPath(books, 2, 3);
        CHECKS.isFalse("holds", books.holds(0, forbidden));
        books.join(0, 0, 2);
        isPath(books, 0, 2, 0, 2);
        books.back(0, first);
        // now the forbidden one comes ahead of the last one, and takes its place
        isPath(books, 0, 1);
        isPath(books, 1, 3, 1, 2, 3);
        books.gone(0, 3);
        isPath(books, 0, 1, 0, 2, 1);
        books.gone(0, 2);
        isPath(books, 0, 1);
    }

    /** A group of as many entries as 250 changes can join: 125, in one row. */
    private static void longestPath() {
        KindredBooks books = ofEntries(125);
        for (int i = 1; i < 125; i++) {
            books.join(0, i - 1, i);
        }
        CHECKS.same("one group", books.groups(0), 1);
        CHECKS.same("its size", books.sizeOf(0, 60), 125);
        CHECKS.same("its longest row", books.path(0, 0, 124, KindredBooks.NONE), 125);
        CHECKS.same("its last entry", books.path(0, 0, 124, 124), 124);
        CHECKS.same("its middle", books.path(0, 124, 0, 62), 62);
        CHECKS.throwsA("behind it", Checks.INDEX, () -> books.path(0, 0, 124, 125));
        CHECKS.same("errors", books.errors(0), 0);
        books.join(0, 0, 124);
        CHECKS.same("the shorter way", books.path(0, 1, 124, KindredBooks.NONE), 3);
        CHECKS.same("as long both ways", books.path(0, 0, 63, KindredBooks.NONE), 63);
    }

    /** "a NEVER that stands, of an entry of the group of the one and an entry of the group of the other one". */
    private static void forbidsOfGroups() {
        KindredBooks books = ofEntries(5);
        int never = books.never(0, 0, 4);
        CHECKS.same("the entries themselves", books.forbids(0, 0, 4), never);
        CHECKS.same("the other way", books.forbids(0, 4, 0), never);
        CHECKS.same("others", books.forbids(0, 1, 4), KindredBooks.NONE);
        books.join(0, 0, 1);
        CHECKS.same("one in the group", books.forbids(0, 1, 4), never);
        books.join(0, 4, 3);
        CHECKS.same("both in groups", books.forbids(0, 3, 1), never);
        CHECKS.same("a third one", books.forbids(0, 2, 1), KindredBooks.NONE);
        books.gone(0, 4);
        CHECKS.same("an entry is gone", books.forbids(0, 0, 3), KindredBooks.NONE);
    }

    /** "Returns the earliest such change": by counts, then by hands. */
    private static void forbidsTheEarliest() {
        KindredBooks books = ofEntries(2);
        books.hear(1, 0);
        books.hear(2, 0);
        int late = books.never(2, 0, 1);
        int early = books.never(1, 1, 0);
        int latest = books.never(1, 0, 1);
        books.hear(0, 2);
        CHECKS.same("one", books.forbids(0, 0, 1), late);
        books.hear(0, 1);
        CHECKS.same("the lesser hand", books.forbids(0, 0, 1), early);
        books.back(0, early);
        CHECKS.same("the lesser count", books.forbids(0, 0, 1), late);
        books.back(0, late);
        CHECKS.same("the last one", books.forbids(0, 0, 1), latest);
        books.back(0, latest);
        CHECKS.same("none", books.forbids(0, 0, 1), KindredBooks.NONE);
    }

    /** "NONE if there is none": within a group, too. */
    private static void forbidsNothing() {
        KindredBooks books = ofEntries(2);
        CHECKS.same("two", books.forbids(0, 0, 1), KindredBooks.NONE);
        CHECKS.same("one", books.forbids(0, 0, 0), KindredBooks.NONE);
        books.join(0, 0, 1);
        CHECKS.same("a group", books.forbids(0, 0, 1), KindredBooks.NONE);
        books.never(0, 0, 1);
        CHECKS.same("one with a NEVER", books.forbids(0, 0, 0), KindredBooks.NONE);
        CHECKS.same("not a group any more", books.forbids(0, 0, 1), 3);
    }

    private static void isShown(KindredBooks books, int entry, int kind, int... due) {
        String call = "(0, " + entry + ", " + kind;
        CHECKS.same("shown" + call + ")", books.shown(0, entry, kind), due.length);
        for (int i = 0; i < due.length; i++) {
            CHECKS.same("shownAt" + call + ", " + i + ")", books.shownAt(0, entry, kind, i), due[i]);
        }
        CHECKS.throwsA("shownAt" + call + ", " + due.length + ")", Checks.INDEX, () -> books.shownAt(0, entry, kind, due.length));
        CHECKS.throwsA("shownAt" + call + ", -1)", Checks.INDEX, () -> books.shownAt(0, entry, kind, -1));
    }

    /** "of NAMEs and DAYs that line of its entries that stands and is the latest one": one alone, of like values, too. */
    private static void shownNameAndDayAreTheLatest() {
        for (int kind : new int[] {KindredBooks.NAME, KindredBooks.DAY}) {
            KindredBooks books = ofEntries(2);
            int first = Checks.line(books, 0, 1, kind, "2000-01-01");
            isShown(books, 1, kind, first);
            int second = Checks.line(books, 0, 0, kind, "2000-01-02");
            isShown(books, 1, kind, first);
            books.join(0, 0, 1);
            isShown(books, 1, kind, second);
            int third = Checks.line(books, 0, 1, kind, "2000-01-01");
            isShown(books, 0, kind, third);
            int back = books.back(0, third);
            isShown(books, 0, kind, second);
            books.gone(0, 0);
            isShown(books, 1, kind, first);
            books.back(0, back);
            isShown(books, 1, kind, third);
        }
    }

    /** "of the other kinds, of each value the earliest line of its entries that stands". */
    private static void shownValuesAreTheEarliest() {
        for (int kind : new int[] {KindredBooks.WAY, KindredBooks.PLACE, KindredBooks.NOTE}) {
            KindredBooks books = ofEntries(2);
            int first = Checks.line(books, 0, 0, kind, "x");
            int second = Checks.line(books, 0, 1, kind, "x");
            int other = Checks.line(books, 0, 1, kind, "y");
            isShown(books, 0, kind, first);
            isShown(books, 1, kind, second, other);
            books.join(0, 1, 0);
            isShown(books, 1, kind, first, other);
            books.back(0, first);
            isShown(books, 0, kind, second, other);
            books.back(0, second);
            isShown(books, 0, kind, other);
        }
    }

    /** "in the order from the earliest to the latest one": by counts and hands, not by numbers or entries. */
    private static void shownInTheirOrder() {
        KindredBooks books = ofEntries(2);
        books.hear(2, 0);
        int late = Checks.line(books, 2, 1, KindredBooks.NOTE, "a");
        int latest = Checks.line(books, 2, 0, KindredBooks.NOTE, "b");
        int early = Checks.line(books, 0, 0, KindredBooks.NOTE, "c");
        books.join(0, 1, 0);
        int last = Checks.line(books, 0, 1, KindredBooks.NOTE, "d");
        books.hear(0, 2);
        // counts 3, 4, 3 and 5
        isShown(books, 1, KindredBooks.NOTE, early, late, latest, last);
        books.hear(1, 0);
        CHECKS.same("in the third book", books.shownAt(1, 0, KindredBooks.NOTE, 1), late);
    }

    /** A group without lines of a kind shows none of it. */
    private static void shownOfNothing() {
        KindredBooks books = ofEntries(1);
        for (int kind = 0; kind < 5; kind++) {
            isShown(books, 0, kind);
            CHECKS.same("values", books.values(0, 0, kind), 0);
        }
        int line = Checks.line(books, 0, 0, KindredBooks.NOTE, "x");
        isShown(books, 0, KindredBooks.NOTE, line);
        isShown(books, 0, KindredBooks.PLACE);
        books.back(0, line);
        isShown(books, 0, KindredBooks.NOTE);
    }

    /** As many lines as 250 changes can be: 249 of one entry. */
    private static void shownOfAllLines() {
        KindredBooks books = ofEntries(1);
        for (int i = 0; i < 249; i++) {
            books.type(i % 2 == 0 ? ((long) ('A' + i / 50) << 8) | ('A' + i % 50) : 'z');
            books.line(0, 0, KindredBooks.NOTE);
        }
        CHECKS.same("values", books.values(0, 0, KindredBooks.NOTE), 126);
        CHECKS.same("shown", books.shown(0, 0, KindredBooks.NOTE), 126);
        CHECKS.same("the first one", books.shownAt(0, 0, KindredBooks.NOTE, 0), 1);
        CHECKS.same("the second one", books.shownAt(0, 0, KindredBooks.NOTE, 1), 2);
        CHECKS.same("the last one", books.shownAt(0, 0, KindredBooks.NOTE, 125), 249);
        CHECKS.throwsA("behind it", Checks.INDEX, () -> books.shownAt(0, 0, KindredBooks.NOTE, 126));
    }

    /** "Counts the different values of a kind that stand": of NAMEs and DAYs, too, of which one is shown. */
    private static void valuesThatAreNotShown() {
        KindredBooks books = ofEntries(2);
        int ann = Checks.line(books, 0, 0, KindredBooks.NAME, "Ann");
        Checks.line(books, 0, 0, KindredBooks.NAME, "ann!");
        int bob = Checks.line(books, 0, 1, KindredBooks.NAME, "Bob");
        Checks.line(books, 0, 1, KindredBooks.DAY, "2000-01-01");
        Checks.line(books, 0, 1, KindredBooks.DAY, "2000-01-02");
        CHECKS.same("of one", books.values(0, 0, KindredBooks.NAME), 1);
        CHECKS.same("of the other", books.values(0, 1, KindredBooks.NAME), 1);
        CHECKS.same("days", books.values(0, 1, KindredBooks.DAY), 2);
        books.join(0, 0, 1);
        CHECKS.same("of both", books.values(0, 1, KindredBooks.NAME), 2);
        CHECKS.same("shown of both", books.shown(0, 1, KindredBooks.NAME), 1);
        books.back(0, ann);
        CHECKS.same("the like one stands", books.values(0, 0, KindredBooks.NAME), 2);
        books.back(0, bob);
        CHECKS.same("one is left", books.values(0, 0, KindredBooks.NAME), 1);
        books.gone(0, 1);
        CHECKS.same("days of what is gone", books.values(0, 0, KindredBooks.DAY), 0);
    }

    /** What other books make and do not tell is not seen. */
    private static void otherBooksDoNotMatter() {
        KindredBooks books = ofEntries(2);
        books.hear(1, 0);
        int line = Checks.line(books, 1, 0, KindredBooks.NAME, "Ann");
        books.join(1, 0, 1);
        books.entry(1);
        CHECKS.same("groups", books.groups(0), 2);
        CHECKS.same("groups there", books.groups(1), 2);
        CHECKS.same("shown", books.shown(0, 0, KindredBooks.NAME), 0);
        CHECKS.same("shown there", books.shownAt(1, 1, KindredBooks.NAME, 0), line);
        CHECKS.same("size", books.sizeOf(0, 0), 1);
        CHECKS.throwsA("the entry of the other book", Checks.ELEMENT, () -> books.sizeOf(0, 4));
    }
}
