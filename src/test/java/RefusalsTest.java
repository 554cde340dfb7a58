/**
 * Section 1 of the document: "If several exceptions apply to a call, the one that is listed first is thrown; a call
 * that throws an exception changes nothing." Every call of the face that throws is made with each fault by itself, at
 * the edge and far behind it, and with faults together; all that can be seen must be the same behind it.
 */
public final class RefusalsTest {
    /** The exception that is due for a row of arguments; null if the call is right. */
    interface Due {
        String of(int... arguments);
    }

    /** A call with a row of arguments. */
    interface Call {
        Object run(int... arguments);
    }

    private static final Checks CHECKS = new Checks("RefusalsTest");
    private static final int MIN = Integer.MIN_VALUE;
    private static final int MAX = Integer.MAX_VALUE;
    /** In each row of arguments a right one comes first, then the wrong ones at the edge, then those far behind it. */
    private static final int[] BOOKS = {0, -1, 3, MIN, MAX};
    private static final int[] KINDS = {KindredBooks.NAME, -1, 5, MIN, MAX};
    /** A line, what is gone, what is taken back, what is not known, and what is no change are no live entries. */
    private static final int[] ENTRIES = {0, 2, -1, 14, 1, 4, 6, 8, 250, MIN, MAX};
    private static final int[] OTHERS = {2, 0, -1, 14, 1, 4, 6, 8, 250, MIN, MAX};
    private static final int[] WHATS = {0, -1, 3, MIN, MAX};

    private static KindredBooks books;
    private static String seen;
    private static String text = "Ann";
    private static int most = 14;
    private static int left;

    public static void main(String[] args) {
        refuseMaking("Ann", 14);
        refuseMaking("Ann", 250);
        refuseLines();
        refuseTyping();
        refuseCountry();
        refuseTelling();
        refuseGroups();
        refuseShown();
        refuseLikeness();
        refuseSearches();
        refuseHouseholds();
        refuseYearly();
        refusePapers();
        refuseWholes();
        CHECKS.end();
    }

    /** 14 changes, and entries of the last book up to the number that is asked for. */
    private static KindredBooks makeScene() {
        KindredBooks made = new KindredBooks();
        Checks.named(made, 0, "Ann");
        Checks.named(made, 0, "Ann");
        made.gone(0, made.entry(0));
        made.back(0, made.entry(0));
        made.entry(1);
        Checks.line(made, 0, 0, KindredBooks.DAY, "2000-01-01");
        Checks.line(made, 0, 0, KindredBooks.WAY, "1");
        made.join(0, 2, made.entry(0));
        made.member(0, 0, 11);
        Checks.fill(made, most);
        made.suggest(0, 500);
        Checks.type(made, "Ann");
        made.search(0, KindredBooks.PART);
        made.yearly(0, 2000, 1, 1, 0);
        made.write(1, 0);
        made.clearText();
        Checks.type(made, text);
        return made;
    }

    /** Starts with a text and a number of changes. */
    private static void start(String newText, int newMost) {
        compare();
        text = newText;
        most = newMost;
        left = 0;
    }

    private static void compare() {
        if (books != null) {
            CHECKS.same("all that is seen behind what was refused", Checks.look(books), seen);
        }
        books = null;
    }

    private static void refuse(String what, String due, Checks.Call call) {
        if (left == 0 || books == null) {
            compare();
            books = makeScene();
            seen = Checks.look(books);
            // an object is used for 512 calls at most
            left = most > 14 ? 30 : 100;
        }
        left--;
        CHECKS.throwsA(what, due, call);
    }

    /** Makes a call with all rows of arguments that have one fault, and with those that have several at the edge. */
    private static void refuseAll(String name, Due due, Call call, int[]... rows) {
        int all = 1;
        for (int[] row : rows) {
            all *= row.length;
        }
        for (int i = 0; i < all; i++) {
            int[] arguments = new int[rows.length];
            StringBuilder what = new StringBuilder(name);
            int rest = i;
            int faults = 0;
            boolean isFar = false;
            for (int j = 0; j < rows.length; j++) {
                int place = rest % rows[j].length;
                rest /= rows[j].length;
                arguments[j] = rows[j][place];
                what.append(' ').append(arguments[j]);
                faults += place > 0 ? 1 : 0;
                isFar |= place > 3;
            }
            String thrown = due.of(arguments);
            if (thrown != null && (faults < 2 || !isFar)) {
                refuse(what.toString(), thrown, () -> call.run(arguments));
            }
        }
        compare();
    }

    private static boolean isNoBook(int book) {
        return book < 0 || book > 2;
    }

    private static boolean isDead(int entry) {
        return entry != 0 && entry != 2 && entry != 11;
    }

    /** Promises 5 and 7 to 12: the text does not matter; with 250 changes none is made. */
    private static void refuseMaking(String newText, int newMost) {
        start(newText, newMost);
        String full = newMost == 250 ? Checks.STATE : null;
        refuseAll("entry", a -> isNoBook(a[0]) ? Checks.INDEX : full, a -> books.entry(a[0]), BOOKS);
        Due ofTwo = a -> isNoBook(a[0]) ? Checks.INDEX : a[1] == a[2] ? Checks.ARGUMENT
            : isDead(a[1]) || isDead(a[2]) ? Checks.ELEMENT : full;
        refuseAll("join", ofTwo, a -> books.join(a[0], a[1], a[2]), BOOKS, ENTRIES, OTHERS);
        refuseAll("never", ofTwo, a -> books.never(a[0], a[1], a[2]), BOOKS, ENTRIES, OTHERS);
        refuseAll("member", ofTwo, a -> books.member(a[0], a[1], a[2]), BOOKS, ENTRIES, OTHERS);
        refuseAll("gone", a -> isNoBook(a[0]) ? Checks.INDEX : isDead(a[1]) ? Checks.ELEMENT : full,
            a -> books.gone(a[0], a[1]), BOOKS, ENTRIES);
        refuseAll("back", a -> isNoBook(a[0]) || a[1] < 0 || a[1] >= newMost ? Checks.INDEX
            : a[1] == 6 || a[1] == 8 || a[1] >= 14 ? Checks.ELEMENT : full,
            a -> books.back(a[0], a[1]), BOOKS, new int[] {0, 13, -1, newMost, newMost - 1, 6, 8, 1, MIN, MAX});
        refuseAll("undo", a -> isNoBook(a[0]) ? Checks.INDEX : full, a -> books.undo(a[0]), BOOKS);
        // in a book that knows nothing no change counts, and no entry is live; nothing is there to undo
        refuse("back in an empty book", newMost == 250 ? Checks.STATE : Checks.ELEMENT, () -> books.back(newMost == 250 ? 2 : 1, newMost - 1));
        refuse("gone in another book", Checks.ELEMENT, () -> books.gone(1, 0));
        refuse("join in another book", Checks.ELEMENT, () -> books.join(1, 8, 0));
        CHECKS.same("hear its own book", books.hear(0, 0), 0);
    }

    /** Promise 6: the text, which is looked at behind all else, and the 250 changes. */
    private static void refuseLines() {
        String[] texts = {"Ann", "", "a\u001f", "\u007fa", "12345678901234567890123456789012345678901", "2000-02-30"};
        for (String one : texts) {
            start(one, 14);
            boolean isWrong = !one.equals("Ann") && !one.equals("2000-02-30");
            refuseAll("line with \"" + one + "\",", a -> isNoBook(a[0]) ? Checks.INDEX : a[2] < 0 || a[2] > 4 ? Checks.ARGUMENT
                : isDead(a[1]) ? Checks.ELEMENT : isWrong || a[2] == KindredBooks.DAY ? Checks.STATE : null,
                a -> books.line(a[0], a[1], a[2]), BOOKS, ENTRIES, KINDS);
            refuse("line, a DAY", Checks.STATE, () -> books.line(0, 0, KindredBooks.DAY));
        }
        for (String one : new String[] {"Ann", ""}) {
            start(one, 250);
            refuseAll("line, the last one, with \"" + one + "\",", a -> isNoBook(a[0]) ? Checks.INDEX
                : a[2] < 0 || a[2] > 4 ? Checks.ARGUMENT : isDead(a[1]) ? Checks.ELEMENT : Checks.STATE,
                a -> books.line(a[0], a[1], a[2]), BOOKS, ENTRIES, KINDS);
        }
        start("Ann", 14);
        refuse("line with a right text for no entry", Checks.ELEMENT, () -> books.line(0, 4, 0));
        CHECKS.same("the text behind it", Checks.form(books, books.line(0, 0, KindredBooks.NOTE), 0), "Ann");
        books = null;
    }

    /** Promise 2. */
    private static void refuseTyping() {
        String four = "1234567890".repeat(40);
        start(four, 14);
        refuse("a byte at 400", Checks.STATE, () -> books.type(1));
        refuse("a high byte at 400", Checks.STATE, () -> books.type(Long.MIN_VALUE));
        refuse("eight bytes at 400", Checks.STATE, () -> books.type(-1));
        start(four.substring(0, 399), 14);
        refuse("two bytes at 399", Checks.STATE, () -> books.type(0x4100000000000042L));
        start(four.substring(0, 393), 14);
        refuse("eight bytes at 393", Checks.STATE, () -> books.type(Long.MAX_VALUE));
    }

    /** Promise 4. */
    private static void refuseCountry() {
        start("Ann", 14);
        for (int number : new int[] {0, 1000, -1, -49, MIN, MAX}) {
            refuse("setCountry " + number, Checks.ARGUMENT, () -> books.setCountry(number));
        }
    }

    /** Promises 13 and 15 to 19, 29 and 30. */
    private static void refuseTelling() {
        start("Ann", 14);
        int[] changes = {0, -1, 14, 250, MIN, MAX};
        Due ofTwoBooks = a -> isNoBook(a[0]) || isNoBook(a[1]) ? Checks.INDEX : null;
        refuseAll("hear", ofTwoBooks, a -> books.hear(a[0], a[1]), BOOKS, BOOKS);
        refuseAll("change", a -> a[0] < 0 || a[0] >= 14 ? Checks.INDEX : a[1] < 0 || a[1] > 5 ? Checks.ARGUMENT : null,
            a -> books.change(a[0], a[1]), changes, new int[] {0, -1, 6, MIN, MAX});
        refuseAll("known", a -> isNoBook(a[0]) ? Checks.INDEX : null, a -> books.known(a[0]), BOOKS);
        Due ofChange = a -> isNoBook(a[0]) || a[1] < 0 || a[1] >= 14 ? Checks.INDEX : null;
        refuseAll("counts", ofChange, a -> books.counts(a[0], a[1]), BOOKS, changes);
        refuseAll("stands", ofChange, a -> books.stands(a[0], a[1]), BOOKS, changes);
        refuseAll("holds", ofChange, a -> books.holds(a[0], a[1]), BOOKS, changes);
        refuseAll("write", a -> a[0] < 0 || a[0] >= 14 ? Checks.INDEX : a[1] < 0 || a[1] > 3 ? Checks.ARGUMENT : null,
            a -> books.write(a[0], a[1]), changes, new int[] {0, -1, 4, MIN, MAX});
        refuseAll("pageAt", a -> a[0] < 0 || a[0] >= 3 ? Checks.INDEX : null, a -> books.pageAt(a[0]),
            new int[] {0, -1, 3, MIN, MAX});
        for (int book : BOOKS) {
            if (isNoBook(book)) {
                refuse("hear, the second book", Checks.INDEX, () -> books.hear(1, book));
            }
        }
    }

    /** Promises 20 to 25. */
    private static void refuseGroups() {
        start("Ann", 14);
        refuseAll("groups", a -> isNoBook(a[0]) ? Checks.INDEX : null, a -> books.groups(a[0]), BOOKS);
        refuseAll("groupAt", a -> isNoBook(a[0]) || a[1] < 0 || a[1] > 1 ? Checks.INDEX : null,
            a -> books.groupAt(a[0], a[1]), BOOKS, new int[] {0, -1, 2, MIN, MAX});
        refuse("groupAt of a book without groups", Checks.INDEX, () -> books.groupAt(2, 0));
        Due ofEntry = a -> isNoBook(a[0]) ? Checks.INDEX : isDead(a[1]) ? Checks.ELEMENT : null;
        refuseAll("groupOf", ofEntry, a -> books.groupOf(a[0], a[1]), BOOKS, ENTRIES);
        refuseAll("sizeOf", ofEntry, a -> books.sizeOf(a[0], a[1]), BOOKS, ENTRIES);
        Due ofTwo = a -> isNoBook(a[0]) ? Checks.INDEX : isDead(a[1]) || isDead(a[2]) ? Checks.ELEMENT : null;
        refuseAll("forbids", ofTwo, a -> books.forbids(a[0], a[1], a[2]), BOOKS, ENTRIES, OTHERS);
        Due ofPath = a -> {
            String thrown = ofTwo.of(a);
            // 0 is alone, 2 and 11 are the same: the rows have no entry, one (of one to itself) or two
            int length = a[1] == a[2] ? 1 : a[1] == 0 || a[2] == 0 ? 0 : 2;
            return thrown != null ? thrown : a[3] < -1 || a[3] >= length ? Checks.INDEX : null;
        };
        refuseAll("path", ofPath, a -> books.path(a[0], a[1], a[2], a[3]), new int[] {0, -1, 3}, new int[] {2, -1, 14, 0, 4},
            new int[] {11, -1, 14, 0, 2, 4}, new int[] {0, -2, 2, 1, MIN, MAX});
    }

    /** Promises 26 to 28. */
    private static void refuseShown() {
        start("Ann", 14);
        Due ofKind = a -> isNoBook(a[0]) ? Checks.INDEX : a[2] < 0 || a[2] > 4 ? Checks.ARGUMENT : isDead(a[1]) ? Checks.ELEMENT : null;
        refuseAll("shown", ofKind, a -> books.shown(a[0], a[1], a[2]), BOOKS, ENTRIES, KINDS);
        refuseAll("values", ofKind, a -> books.values(a[0], a[1], a[2]), BOOKS, ENTRIES, KINDS);
        Due ofLine = a -> {
            String thrown = ofKind.of(a);
            return thrown != null ? thrown : a[3] < 0 || a[3] > 0 ? Checks.INDEX : null;
        };
        refuseAll("shownAt", ofLine, a -> books.shownAt(a[0], a[1], a[2], a[3]), new int[] {0, -1, 3}, new int[] {0, -1, 14, 4},
            new int[] {0, -1, 5}, new int[] {0, -1, 1, MIN, MAX});
        refuse("shownAt of a kind without lines", Checks.INDEX, () -> books.shownAt(0, 0, KindredBooks.NOTE, 0));
    }

    /** Promises 31 to 34. */
    private static void refuseLikeness() {
        start("Ann", 14);
        Due ofTwo = a -> isNoBook(a[0]) ? Checks.INDEX : isDead(a[1]) || isDead(a[2]) ? Checks.ELEMENT : null;
        refuseAll("likeness", ofTwo, a -> books.likeness(a[0], a[1], a[2]), BOOKS, ENTRIES, OTHERS);
        refuseAll("suggest", a -> isNoBook(a[0]) ? Checks.INDEX : a[1] < 401 || a[1] > 1000 ? Checks.ARGUMENT : null,
            a -> books.suggest(a[0], a[1]), BOOKS, new int[] {401, 400, 1001, 0, -1, MIN, MAX});
        refuseAll("suggested", a -> a[0] != 0 ? Checks.INDEX : a[1] < 0 || a[1] > 2 ? Checks.ARGUMENT : null,
            a -> books.suggested(a[0], a[1]), new int[] {0, -1, 1, MIN, MAX}, WHATS);
        refuseAll("looked", a -> isNoBook(a[0]) ? Checks.INDEX : null, a -> books.looked(a[0]), BOOKS);
    }

    /** Promises 35 and 36. */
    private static void refuseSearches() {
        for (String one : new String[] {"Ann", "", " -/", "\u00e9\u00ff"}) {
            start(one, 14);
            refuseAll("search for \"" + one + "\",", a -> isNoBook(a[0]) ? Checks.INDEX : a[1] < 0 || a[1] > 2 ? Checks.ARGUMENT
                : one.equals("Ann") ? null : Checks.STATE,
                a -> books.search(a[0], a[1]), BOOKS, new int[] {KindredBooks.BEGINS, -1, 3, KindredBooks.NEAR, KindredBooks.PART, MIN, MAX});
        }
        refuseAll("found, the rank", a -> a[0] < 0 || a[0] > 1 ? Checks.INDEX : null, a -> books.found(a[0], true),
            new int[] {0, -1, 2, MIN, MAX});
        refuseAll("found, the group", a -> a[0] < 0 || a[0] > 1 ? Checks.INDEX : null, a -> books.found(a[0], false),
            new int[] {0, -1, 2, MIN, MAX});
    }

    /** Promises 37 and 38. */
    private static void refuseHouseholds() {
        start("Ann", 14);
        Due ofHouse = a -> isNoBook(a[0]) ? Checks.INDEX : isDead(a[1]) ? Checks.ELEMENT : null;
        refuseAll("members", ofHouse, a -> books.members(a[0], a[1]), BOOKS, ENTRIES);
        Due ofMember = a -> {
            String thrown = ofHouse.of(a);
            return thrown != null ? thrown : a[1] != 0 || a[2] != 0 ? Checks.INDEX : null;
        };
        refuseAll("memberAt", ofMember, a -> books.memberAt(a[0], a[1], a[2]), BOOKS, ENTRIES, new int[] {0, -1, 1, MIN, MAX});
    }

    /** Promises 39 and 40. */
    private static void refuseYearly() {
        start("Ann", 14);
        Due due = a -> isNoBook(a[0]) ? Checks.INDEX
            : a[1] == 2000 && a[2] == 1 && a[3] == 1 && a[4] == 0 ? null : Checks.ARGUMENT;
        refuseAll("yearly", due, a -> books.yearly(a[0], a[1], a[2], a[3], a[4]), new int[] {0, -1, 3}, new int[] {2000, 0, 9999, MIN, MAX, -1, 10000},
            new int[] {1, 0, 13, MIN, MAX}, new int[] {1, 0, 32, MIN, MAX}, new int[] {0, -1, 366, MIN, MAX});
        int[][] noDates = {{2001, 2, 29}, {2000, 2, 30}, {1900, 2, 29}, {2000, 4, 31}, {2000, 6, 31}, {2000, 9, 31}, {2000, 11, 31}};
        for (int[] date : noDates) {
            refuse("yearly from no date", Checks.ARGUMENT, () -> books.yearly(0, date[0], date[1], date[2], 0));
        }
        refuseAll("yearlyAt", a -> a[0] != 0 ? Checks.INDEX : a[1] < 0 || a[1] > 2 ? Checks.ARGUMENT : null,
            a -> books.yearlyAt(a[0], a[1]), new int[] {0, -1, 1, MIN, MAX}, WHATS);
    }

    /** Promise 43. */
    private static void refusePapers() {
        for (String one : new String[] {"", "n:Ann.", "x", "n:Ann", "d:2000-02-30.", "n:Ann.n:."}) {
            start(one, 14);
            boolean isWrong = !one.isEmpty() && !one.equals("n:Ann.");
            refuseAll("readIn of \"" + one + "\"", a -> isNoBook(a[0]) ? Checks.INDEX : isWrong ? Checks.STATE : null,
                a -> books.readIn(a[0]), BOOKS);
        }
        for (int changes = 247; changes <= 249; changes++) {
            start("n:Ann;t:x.", changes);
            boolean isWrong = changes > 247;
            refuseAll("readIn behind " + changes, a -> isNoBook(a[0]) ? Checks.INDEX : isWrong ? Checks.STATE : null,
                a -> books.readIn(a[0]), BOOKS);
        }
    }

    /** Promises 44 to 48. */
    private static void refuseWholes() {
        start("Ann", 14);
        Due due = a -> isNoBook(a[0]) ? Checks.INDEX : null;
        refuseAll("agree", a -> isNoBook(a[0]) || isNoBook(a[1]) ? Checks.INDEX : null, a -> books.agree(a[0], a[1]), BOOKS, BOOKS);
        refuseAll("digest", due, a -> books.digest(a[0]), BOOKS);
        refuseAll("errors", due, a -> books.errors(a[0]), BOOKS);
        refuseAll("meanLines", due, a -> books.meanLines(a[0]), BOOKS);
        refuseAll("countShare", due, a -> books.countShare(a[0]), BOOKS);
        compare();
    }
}
