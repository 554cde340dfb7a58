/** Promises 20 to 28: groups, paths, what forbids, and what is shown. */
public final class GroupsTest {
    private static final Checks CHECKS = new Checks("GroupsTest");

    public static void main(String[] args) {
        groups();
        paths();
        pathsOfLikeLength();
        forbidding();
        forbiddingEarliest();
        showing();
        showingByLateness();
        values();
        wrongCalls();
        CHECKS.end();
    }

    /** Promises 20 to 23. */
    private static void groups() {
        KindredBooks books = new KindredBooks();
        for (int i = 0; i < 5; i++) {
            books.entry(0);
        }
        books.join(0, 4, 3);
        books.join(0, 1, 4);
        CHECKS.same("groups", books.groups(0), 3);
        CHECKS.same("groupAt(0)", books.groupAt(0, 0), 0);
        CHECKS.same("groupAt(1)", books.groupAt(0, 1), 1);
        CHECKS.same("groupAt(2)", books.groupAt(0, 2), 2);
        CHECKS.same("groupOf(4)", books.groupOf(0, 4), 1);
        CHECKS.same("groupOf(3)", books.groupOf(0, 3), 1);
        CHECKS.same("sizeOf(3)", books.sizeOf(0, 3), 3);
        CHECKS.same("sizeOf(0)", books.sizeOf(0, 0), 1);
        books.gone(0, 1);
        CHECKS.same("groups without 1", books.groups(0), 3);
        CHECKS.same("groupAt(2) without 1", books.groupAt(0, 2), 3);
        CHECKS.same("groupOf(4) without 1", books.groupOf(0, 4), 3);
        CHECKS.same("sizeOf(4) without 1", books.sizeOf(0, 4), 2);
        books.entry(1);
        CHECKS.same("sizeOf(0) with a foreign entry", books.sizeOf(0, 0), 1);
        CHECKS.same("groups with a foreign entry", books.groups(0), 3);
        CHECKS.throwsA("groupAt(3)", Checks.INDEX, () -> books.groupAt(0, 3));
        CHECKS.throwsA("groupAt(-1)", Checks.INDEX, () -> books.groupAt(0, -1));
        CHECKS.throwsA("groupOf what is gone", Checks.ELEMENT, () -> books.groupOf(0, 1));
        CHECKS.throwsA("sizeOf what is gone", Checks.ELEMENT, () -> books.sizeOf(0, 1));
    }

    private static void isPath(KindredBooks books, int one, int other, int... due) {
        String call = "path(0, " + one + ", " + other + ", ";
        CHECKS.same(call + "NONE)", books.path(0, one, other, KindredBooks.NONE), due.length);
        for (int i = 0; i < due.length; i++) {
            CHECKS.same(call + i + ")", books.path(0, one, other, i), due[i]);
        }
        CHECKS.throwsA(call + due.length + ")", Checks.INDEX, () -> books.path(0, one, other, due.length));
    }

    /** Promise 24. */
    private static void paths() {
        KindredBooks books = new KindredBooks();
        for (int i = 0; i < 6; i++) {
            books.entry(0);
        }
        books.join(0, 0, 4);
        books.join(0, 4, 1);
        books.join(0, 1, 3);
        isPath(books, 0, 3, 0, 4, 1, 3);
        isPath(books, 3, 0, 3, 1, 4, 0);
        isPath(books, 2, 2, 2);
        isPath(books, 0, 2);
        int shorter = books.join(0, 3, 0);
        isPath(books, 0, 3, 0, 3);
        books.back(0, shorter);
        isPath(books, 0, 3, 0, 4, 1, 3);
        CHECKS.throwsA("an index below NONE", Checks.INDEX, () -> books.path(0, 0, 3, -2));
        CHECKS.throwsA("the book first", Checks.INDEX, () -> books.path(3, 99, 99, 0));
        CHECKS.throwsA("the one before the index", Checks.ELEMENT, () -> books.path(0, 99, 0, 99));
        CHECKS.throwsA("the other before the index", Checks.ELEMENT, () -> books.path(0, 0, 6, 99));
    }

    private static void pathsOfLikeLength() {
        KindredBooks books = new KindredBooks();
        for (int i = 0; i < 8; i++) {
            books.entry(0);
        }
        // 0-5-2-7 and 0-3-6-7 and 0-3-4-7
        int[][] pairs = {{0, 5}, {5, 2}, {2, 7}, {7, 6}, {6, 3}, {3, 0}, {3, 4}, {4, 7}};
        for (int[] pair : pairs) {
            books.join(0, pair[0], pair[1]);
        }
        isPath(books, 0, 7, 0, 3, 4, 7);
        isPath(books, 7, 0, 7, 2, 5, 0);
    }

    /** Promise 25. */
    private static void forbidding() {
        KindredBooks books = new KindredBooks();
        for (int i = 0; i < 5; i++) {
            books.entry(0);
        }
        books.join(0, 0, 1);
        books.join(0, 2, 3);
        CHECKS.same("nothing forbids", books.forbids(0, 0, 3), KindredBooks.NONE);
        int never = books.never(0, 3, 1);
        int more = books.never(0, 0, 2);
        CHECKS.same("through the groups", books.forbids(0, 0, 2), never);
        CHECKS.same("the other way", books.forbids(0, 2, 0), never);
        CHECKS.same("a third one", books.forbids(0, 0, 4), KindredBooks.NONE);
        CHECKS.same("itself", books.forbids(0, 0, 0), KindredBooks.NONE);
        CHECKS.same("its own group", books.forbids(0, 0, 1), KindredBooks.NONE);
        books.back(0, never);
        CHECKS.same("the next one", books.forbids(0, 0, 2), more);
        books.gone(0, 2);
        CHECKS.same("without what is gone", books.forbids(0, 0, 3), KindredBooks.NONE);
        CHECKS.throwsA("the book first", Checks.INDEX, () -> books.forbids(3, 99, 0));
        CHECKS.throwsA("the one", Checks.ELEMENT, () -> books.forbids(0, 2, 0));
        CHECKS.throwsA("the other", Checks.ELEMENT, () -> books.forbids(0, 0, 2));
    }

    private static void forbiddingEarliest() {
        KindredBooks books = new KindredBooks();
        books.entry(0);
        books.entry(0);
        books.hear(1, 0);
        books.hear(2, 0);
        int late = books.never(2, 0, 1);
        int middle = books.never(1, 0, 1);
        int early = books.never(0, 1, 0);
        books.hear(2, 1);
        CHECKS.same("the lesser hand of like counts", books.forbids(2, 0, 1), middle);
        books.hear(2, 0);
        CHECKS.same("the least hand of like counts", books.forbids(2, 0, 1), early);
        CHECKS.isTrue("all stand", books.stands(2, late));
    }

    private static void isShown(KindredBooks books, int entry, int kind, int... due) {
        String call = "(0, " + entry + ", " + kind;
        CHECKS.same("shown" + call + ")", books.shown(0, entry, kind), due.length);
        for (int i = 0; i < due.length; i++) {
            CHECKS.same("shownAt" + call + ", " + i + ")", books.shownAt(0, entry, kind, i), due[i]);
        }
        CHECKS.throwsA("shownAt" + call + ", " + due.length + ")", Checks.INDEX, () -> books.shownAt(0, entry, kind, due.length));
        CHECKS.throwsA("shownAt" + call + ", -1)", Checks.INDEX, () -> books.shownAt(0, entry, kind, -1));
    }

    /** Promises 26 and 27. */
    private static void showing() {
        KindredBooks books = new KindredBooks();
        int one = books.entry(0);
        int other = books.entry(0);
        isShown(books, one, KindredBooks.NAME);
        int ann = Checks.line(books, 0, one, KindredBooks.NAME, "Ann");
        int anna = Checks.line(books, 0, other, KindredBooks.NAME, "Anna");
        int day = Checks.line(books, 0, one, KindredBooks.DAY, "2000-01-01");
        int laterDay = Checks.line(books, 0, other, KindredBooks.DAY, "2000-01-02");
        int way = Checks.line(books, 0, other, KindredBooks.WAY, "0049 30 1");
        int likeWay = Checks.line(books, 0, one, KindredBooks.WAY, "(030) 1");
        int otherWay = Checks.line(books, 0, one, KindredBooks.WAY, "Ann at home");
        int place = Checks.line(books, 0, one, KindredBooks.PLACE, "New York");
        Checks.line(books, 0, other, KindredBooks.PLACE, "new-york!");
        int note = Checks.line(books, 0, one, KindredBooks.NOTE, "A note");
        int otherNote = Checks.line(books, 0, other, KindredBooks.NOTE, "a note");
        isShown(books, one, KindredBooks.NAME, ann);
        isShown(books, one, KindredBooks.WAY, likeWay, otherWay);
        isShown(books, other, KindredBooks.DAY, laterDay);
        int join = books.join(0, one, other);
        isShown(books, one, KindredBooks.NAME, anna);
        isShown(books, other, KindredBooks.DAY, laterDay);
        isShown(books, one, KindredBooks.WAY, way, otherWay);
        isShown(books, one, KindredBooks.PLACE, place);
        isShown(books, other, KindredBooks.NOTE, note, otherNote);
        books.setCountry(1);
        isShown(books, one, KindredBooks.WAY, way, likeWay, otherWay);
        books.back(0, anna);
        isShown(books, other, KindredBooks.NAME, ann);
        books.back(0, laterDay);
        isShown(books, other, KindredBooks.DAY, day);
        books.back(0, join);
        isShown(books, other, KindredBooks.DAY);
    }

    /** Late and early are told by counts and hands, not by numbers. */
    private static void showingByLateness() {
        KindredBooks books = new KindredBooks();
        int entry = books.entry(0);
        books.hear(1, 0);
        int lateName = Checks.line(books, 1, entry, KindredBooks.NAME, "Late");
        int earlyName = Checks.line(books, 0, entry, KindredBooks.NAME, "Early");
        int lateNote = Checks.line(books, 1, entry, KindredBooks.NOTE, "x");
        int earlyNote = Checks.line(books, 0, entry, KindredBooks.NOTE, "x");
        CHECKS.same("like counts", books.change(lateName, 2), books.change(earlyName, 2));
        books.hear(0, 1);
        isShown(books, entry, KindredBooks.NAME, lateName);
        isShown(books, entry, KindredBooks.NOTE, earlyNote);
        books.back(0, earlyNote);
        isShown(books, entry, KindredBooks.NOTE, lateNote);
    }

    /** Promise 28. */
    private static void values() {
        KindredBooks books = new KindredBooks();
        int one = books.entry(0);
        int other = books.entry(0);
        books.join(0, one, other);
        CHECKS.same("no values", books.values(0, one, KindredBooks.NAME), 0);
        Checks.line(books, 0, one, KindredBooks.NAME, "Ann Lee");
        Checks.line(books, 0, other, KindredBooks.NAME, "ann/lee");
        int lea = Checks.line(books, 0, one, KindredBooks.NAME, "Ann Lea");
        CHECKS.same("names", books.values(0, other, KindredBooks.NAME), 2);
        Checks.line(books, 0, one, KindredBooks.NAME, "--");
        Checks.line(books, 0, one, KindredBooks.NAME, "!");
        CHECKS.same("an empty PLAIN form is a value", books.values(0, other, KindredBooks.NAME), 3);
        books.back(0, lea);
        CHECKS.same("what is taken back", books.values(0, other, KindredBooks.NAME), 2);
        Checks.line(books, 0, one, KindredBooks.DAY, "2000-01-01");
        Checks.line(books, 0, other, KindredBooks.DAY, "2000-01-01");
        Checks.line(books, 0, other, KindredBooks.DAY, "2000-01-02");
        CHECKS.same("days", books.values(0, one, KindredBooks.DAY), 2);
        Checks.line(books, 0, one, KindredBooks.NOTE, "ann lee");
        Checks.line(books, 0, one, KindredBooks.NOTE, "ann/lee");
        CHECKS.same("notes", books.values(0, one, KindredBooks.NOTE), 2);
        Checks.line(books, 0, one, KindredBooks.WAY, "030-1");
        Checks.line(books, 0, one, KindredBooks.WAY, "+49301");
        CHECKS.same("ways", books.values(0, one, KindredBooks.WAY), 1);
        books.setCountry(44);
        CHECKS.same("ways elsewhere", books.values(0, one, KindredBooks.WAY), 2);
        CHECKS.same("places", books.values(0, one, KindredBooks.PLACE), 0);
    }

    private static void wrongCalls() {
        KindredBooks books = new KindredBooks();
        int entry = books.entry(0);
        String before = Checks.state(books);
        for (int wrong : new int[] {-1, 3, Integer.MAX_VALUE, Integer.MIN_VALUE}) {
            CHECKS.throwsA("groups", Checks.INDEX, () -> books.groups(wrong));
            CHECKS.throwsA("groupAt", Checks.INDEX, () -> books.groupAt(wrong, 0));
            CHECKS.throwsA("groupOf", Checks.INDEX, () -> books.groupOf(wrong, 99));
            CHECKS.throwsA("sizeOf", Checks.INDEX, () -> books.sizeOf(wrong, 99));
            CHECKS.throwsA("shown", Checks.INDEX, () -> books.shown(wrong, 99, 9));
            CHECKS.throwsA("shownAt", Checks.INDEX, () -> books.shownAt(wrong, 99, 9, 9));
            CHECKS.throwsA("values", Checks.INDEX, () -> books.values(wrong, 99, 9));
        }
        for (int wrong : new int[] {-1, 5, Integer.MAX_VALUE, Integer.MIN_VALUE}) {
            CHECKS.throwsA("shown of a kind", Checks.ARGUMENT, () -> books.shown(0, 99, wrong));
            CHECKS.throwsA("shownAt of a kind", Checks.ARGUMENT, () -> books.shownAt(0, 99, wrong, 9));
            CHECKS.throwsA("values of a kind", Checks.ARGUMENT, () -> books.values(0, 99, wrong));
        }
        for (int wrong : new int[] {-1, 1, 250, Integer.MAX_VALUE, Integer.MIN_VALUE}) {
            CHECKS.throwsA("groupOf an entry", Checks.ELEMENT, () -> books.groupOf(0, wrong));
            CHECKS.throwsA("sizeOf an entry", Checks.ELEMENT, () -> books.sizeOf(0, wrong));
            CHECKS.throwsA("shown of an entry", Checks.ELEMENT, () -> books.shown(0, wrong, 0));
            CHECKS.throwsA("shownAt of an entry", Checks.ELEMENT, () -> books.shownAt(0, wrong, 0, 9));
            CHECKS.throwsA("values of an entry", Checks.ELEMENT, () -> books.values(0, wrong, 0));
        }
        CHECKS.throwsA("an entry that is not known", Checks.ELEMENT, () -> books.groupOf(1, entry));
        CHECKS.same("nothing changes", Checks.state(books), before);
    }
}
