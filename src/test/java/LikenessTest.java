/** Promises 31 to 34: likeness, suggestions, and pairs that have something in common. */
public final class LikenessTest {
    private static final Checks CHECKS = new Checks("LikenessTest");

    public static void main(String[] args) {
        ofNames();
        ofWays();
        ofGroups();
        suggesting();
        suggestingByAll();
        suggestingMany();
        suggestionsStay();
        looking();
        CHECKS.end();
    }

    private static void isLike(String one, String other, int due) {
        KindredBooks books = new KindredBooks();
        int left = Checks.named(books, 0, one);
        int right = Checks.named(books, 0, other);
        String call = "likeness of \"" + one + "\" and \"" + other + "\"";
        CHECKS.same(call, books.likeness(0, left, right), due);
        CHECKS.same(call, books.likeness(0, right, left), due);
        CHECKS.same("of one group", books.likeness(0, left, left), 1000);
    }

    /** Promise 31. */
    private static void ofNames() {
        isLike("Ann Lee", "ann-LEE", 800);
        // E 1000 - 1000 / 3 = 667, T 2000 * 1 / 6 = 333, S equal
        isLike("bob", "bop", (4 * 667 + 2 * 333 + 2 * 1000) / 10);
        // E 1000 - 3000 / 4 = 250, nothing else
        isLike("abcd", "xyzd", 100);
        // E 500 of "ab" and "a", T none, S not the same
        isLike("ab", "a", 4 * 500 / 10);
        // E 0, S equal: a1 and a1
        isLike("ab", "af", (4 * 500 + 2 * 1000) / 10);
        isLike("---", "---", 0);
        isLike("---", "ab", 0);
        isLike("12", "12", 600);
        isLike("x", "y", 0);
        // repeated pieces count once: " aa", "aaa", "aa " both
        isLike("aaaa", "aaaaaa", (4 * (1000 - 2000 / 6) + 2 * 1000 + 2 * 1000) / 10);
        // D: put in, take out, change
        isLike("elisabeth", "Elizabeth", (4 * 889 + 2 * 666 + 2 * 1000) / 10);
        isLike("abcdefg", "ahijklm", 4 * (1000 - 6000 / 7) / 10);
        // forty pieces, of which three are common, and the greatest one is among these
        isLike("zyxwvutsrqponmlkjihgfedcba9876543210zxvt", "zyx", (4 * (1000 - 1000 * 37 / 40) + 2 * (2000 * 2 / 43)) / 10);
        isLike("kitten", "sitting", (4 * (1000 - 3000 / 7) + 2 * (2000 * 1 / 13)) / 10);
    }

    private static void ofWays() {
        KindredBooks books = new KindredBooks();
        int left = books.entry(0);
        int right = books.entry(0);
        CHECKS.same("without lines", books.likeness(0, left, right), 0);
        Checks.line(books, 0, left, KindredBooks.WAY, "030 12");
        CHECKS.same("with one line", books.likeness(0, left, right), 0);
        Checks.line(books, 0, right, KindredBooks.WAY, "--");
        Checks.line(books, 0, left, KindredBooks.WAY, "..");
        CHECKS.same("with empty CALL forms", books.likeness(0, left, right), 0);
        int way = Checks.line(books, 0, right, KindredBooks.WAY, "+493012");
        CHECKS.same("with like CALL forms", books.likeness(0, left, right), 200);
        books.setCountry(1);
        Checks.line(books, 0, left, KindredBooks.WAY, "0/0");
        int plus = Checks.line(books, 0, right, KindredBooks.WAY, "00");
        books.setCountry(1);
        CHECKS.same("a + alone is a CALL form", books.likeness(0, left, right), 200);
        books.back(0, plus);
        books.setCountry(1);
        CHECKS.same("in another country", books.likeness(0, left, right), 0);
        books.setCountry(49);
        books.back(0, way);
        CHECKS.same("without what is taken back", books.likeness(0, left, right), 0);
        Checks.line(books, 0, right, KindredBooks.NAME, "030 12");
        Checks.line(books, 0, left, KindredBooks.PLACE, "030 12");
        CHECKS.same("kinds are not mixed", books.likeness(0, left, right), 0);
        CHECKS.throwsA("the book first", Checks.INDEX, () -> books.likeness(3, 99, 99));
        CHECKS.throwsA("the one", Checks.ELEMENT, () -> books.likeness(0, 99, left));
        CHECKS.throwsA("the other", Checks.ELEMENT, () -> books.likeness(0, left, 2));
    }

    /** The greatest number of each is taken by itself, over all lines of the groups. */
    private static void ofGroups() {
        KindredBooks books = new KindredBooks();
        int a = Checks.named(books, 0, "abcd");
        int b = Checks.named(books, 0, "Robert");
        int c = Checks.named(books, 0, "abcd");
        int d = Checks.named(books, 0, "Rupert");
        Checks.line(books, 0, d, KindredBooks.WAY, "1");
        Checks.line(books, 0, a, KindredBooks.WAY, "01");
        CHECKS.same("a and d", books.likeness(0, a, d), 2000 / 10);
        books.join(0, a, b);
        int never = books.never(0, a, c);
        CHECKS.same("a + b and d", books.likeness(0, d, a), (4 * (1000 - 2000 / 6) + 2 * (2000 * 2 / 12) + 4000) / 10);
        books.join(0, c, d);
        CHECKS.same("a + b and c + d", books.likeness(0, b, c), 1000);
        books.back(0, never);
        books.join(0, b, d);
        CHECKS.same("all in one group", books.likeness(0, a, c), 1000);
    }

    private static void isSuggested(KindredBooks books, int index, int lesser, int greater, int likeness) {
        CHECKS.same("lesser group at " + index, books.suggested(index, 0), lesser);
        CHECKS.same("other group at " + index, books.suggested(index, 1), greater);
        CHECKS.same("likeness at " + index, books.suggested(index, 2), likeness);
    }

    /** Promises 32 and 33. */
    private static void suggesting() {
        KindredBooks books = new KindredBooks();
        int a = Checks.named(books, 0, "Robert");
        int b = Checks.named(books, 0, "Rupert");
        int c = Checks.named(books, 0, "robert");
        int d = Checks.named(books, 0, "rupert");
        int near = (4 * (1000 - 2000 / 6) + 2 * (2000 * 2 / 12) + 2000) / 10;
        CHECKS.same("suggest(0, 401)", books.suggest(0, 401), 6);
        isSuggested(books, 0, a, c, 800);
        isSuggested(books, 1, b, d, 800);
        isSuggested(books, 2, a, b, near);
        isSuggested(books, 3, a, d, near);
        isSuggested(books, 4, b, c, near);
        isSuggested(books, 5, c, d, near);
        CHECKS.same("at the bar", books.suggest(0, near), 6);
        CHECKS.same("above the bar", books.suggest(0, near + 1), 2);
        books.never(0, c, a);
        CHECKS.same("without what is forbidden", books.suggest(0, 800), 1);
        isSuggested(books, 0, b, d, 800);
        books.join(0, d, c);
        CHECKS.same("what a group is forbidden", books.suggest(0, 401), 2);
        isSuggested(books, 0, b, c, 800);
        isSuggested(books, 1, a, b, near);
        CHECKS.same("suggest(0, 1000)", books.suggest(0, 1000), 0);
        CHECKS.throwsA("the book first", Checks.INDEX, () -> books.suggest(3, 0));
        CHECKS.throwsA("a bar of 400", Checks.ARGUMENT, () -> books.suggest(0, 400));
        CHECKS.throwsA("a bar of 1001", Checks.ARGUMENT, () -> books.suggest(0, 1001));
    }

    /** Each of letters, pieces, sounds and ways is needed to come up to a bar. */
    private static void suggestingByAll() {
        KindredBooks books = new KindredBooks();
        int a = Checks.named(books, 2, "elisabeth");
        int b = Checks.named(books, 2, "Elizabeth");
        CHECKS.same("at the bar by names", books.suggest(2, 688), 1);
        CHECKS.same("above the bar by names", books.suggest(2, 689), 0);
        Checks.line(books, 2, a, KindredBooks.WAY, "1");
        Checks.line(books, 2, b, KindredBooks.WAY, "01");
        CHECKS.same("at the bar by a way, too", books.suggest(2, 888), 1);
        isSuggested(books, 0, a, b, 888);
        CHECKS.same("above the bar by a way, too", books.suggest(2, 889), 0);
        Checks.line(books, 2, a, KindredBooks.NAME, "ELIZABETH");
        CHECKS.same("the greatest likeness that there is", books.suggest(2, 1000), 1);
        isSuggested(books, 0, a, b, 1000);
    }

    private static void suggestingMany() {
        KindredBooks books = new KindredBooks();
        for (int i = 0; i < 125; i++) {
            books.entry(0);
            books.type('a');
            books.line(0, 2 * i, KindredBooks.NAME);
        }
        CHECKS.same("all pairs of 125 groups", books.suggest(0, 800), 125 * 124 / 2);
        int place = 0;
        for (int i = 0; i < 125; i++) {
            for (int j = i + 1; j < 125; j++) {
                // an object is used for 512 calls at most, so a few places are looked at
                if (place % 223 == 0) {
                    isSuggested(books, place, 2 * i, 2 * j, 800);
                }
                place++;
            }
        }
        CHECKS.same("looked", books.looked(0), 125 * 124 / 2);
        CHECKS.throwsA("behind the last one", Checks.INDEX, () -> books.suggested(125 * 124 / 2, 0));
        CHECKS.same("errors", books.errors(0), 0);
    }

    private static void suggestionsStay() {
        KindredBooks books = new KindredBooks();
        int a = Checks.named(books, 1, "Ann");
        int b = Checks.named(books, 1, "Ann");
        CHECKS.same("suggest", books.suggest(1, 401), 1);
        books.join(1, a, b);
        CHECKS.throwsA("a bar below", Checks.ARGUMENT, () -> books.suggest(1, 1));
        CHECKS.throwsA("no such book", Checks.INDEX, () -> books.suggest(-1, 500));
        isSuggested(books, 0, a, b, 800);
        CHECKS.throwsA("the index first", Checks.INDEX, () -> books.suggested(1, 3));
        CHECKS.throwsA("an index below", Checks.INDEX, () -> books.suggested(-1, 0));
        CHECKS.throwsA("what above", Checks.ARGUMENT, () -> books.suggested(0, 3));
        CHECKS.throwsA("what below", Checks.ARGUMENT, () -> books.suggested(0, -1));
        CHECKS.same("suggest again", books.suggest(1, 401), 0);
        CHECKS.throwsA("none is left", Checks.INDEX, () -> books.suggested(0, 0));
    }

    /** Promise 34. */
    private static void looking() {
        KindredBooks books = new KindredBooks();
        Checks.named(books, 0, "abcd");
        Checks.named(books, 0, "xbcy");
        CHECKS.same("letters alone are nothing in common", books.looked(0), 0);
        int other = Checks.named(books, 0, "zbcdq");
        CHECKS.same("one piece", books.looked(0), 1);
        int third = books.entry(0);
        Checks.line(books, 0, third, KindredBooks.WAY, "1");
        Checks.line(books, 0, other, KindredBooks.WAY, "01");
        CHECKS.same("a way", books.looked(0), 2);
        Checks.named(books, 0, "zufoto");
        Checks.named(books, 0, "zaved");
        CHECKS.same("a sound", books.looked(0), 3);
        books.never(0, 0, other);
        CHECKS.same("what is forbidden counts too", books.looked(0), 3);
        books.join(0, other, third);
        CHECKS.same("one group is no pair", books.looked(0), 2);
        CHECKS.same("elsewhere", books.looked(1), 0);
        CHECKS.throwsA("no such book", Checks.INDEX, () -> books.looked(3));
    }
}
