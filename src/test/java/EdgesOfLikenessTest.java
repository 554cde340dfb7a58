/** The edges of section 5 of the document, and of promises 31 to 34: one test for each sentence. */
public final class EdgesOfLikenessTest {
    private static final Checks CHECKS = new Checks("EdgesOfLikenessTest");

    public static void main(String[] args) {
        lettersOfLikeNames();
        lettersPutInTakenOutAndChanged();
        lettersAreRoundedDown();
        lettersOfEmptyForms();
        lettersOfOneAndForty();
        piecesOfShortNames();
        piecesAreCountedOnce();
        piecesHaveABlankAtEachEnd();
        piecesAreRoundedDown();
        soundsThatAreTheSame();
        callsThatAreTheSame();
        likenessIsRoundedDown();
        likenessOfEachPart();
        likenessIsTheGreatestOfEachPair();
        likenessWithoutAPair();
        likenessOfLinesThatStand();
        likenessOfOneGroup();
        barIsFourHundredAndOneToThousand();
        suggestsAtTheBar();
        suggestsTheGreatestFirst();
        suggestsTheLesserFirst();
        suggestsManyInTheirOrder();
        suggestsPairsOfGroups();
        suggestsNothingThatIsForbidden();
        suggestsNothing();
        suggestsTheLastGroups();
        suggestionsStay();
        tellsOfSuggestions();
        commonByEachPart();
        lookedCountsEachPairOnce();
        lookedOfManyGroups();
        CHECKS.end();
    }

    private static void parts(String one, String other, int letters, int pieces, int sounds) {
        KindredBooks books = new KindredBooks();
        int left = Checks.named(books, 0, one);
        int right = Checks.named(books, 0, other);
        int due = (4 * letters + 2 * pieces + 2 * sounds) / 10;
        CHECKS.same("likeness of \"" + one + "\" and \"" + other + "\"", books.likeness(0, left, right), due);
        CHECKS.same("likeness of \"" + other + "\" and \"" + one + "\"", books.likeness(0, right, left), due);
        CHECKS.same("looked at \"" + one + "\" and \"" + other + "\"", books.looked(0), pieces + sounds > 0 ? 1 : 0);
    }

    /** "1000 - 1000 D / (the greater one of m and n)": D is 0 for the same PLAIN forms, m at most. */
    private static void lettersOfLikeNames() {
        parts("a", "a", 1000, 1000, 1000);
        parts("Ann Lee", "ann/LEE", 1000, 1000, 1000);
        parts("a", "b", 0, 0, 0);
        parts("abc", "xyz", 0, 0, 0);
        parts("12", "12", 1000, 1000, 0);
        parts("annlee", "ann lee", 1000 - 1000 / 7, 2000 * 4 / 13, 1000);
    }

    /** "the least number of bytes to put in, to take out and to change": each by itself, at each end, and together. */
    private static void lettersPutInTakenOutAndChanged() {
        parts("12", "123", 1000 - 333, 2000 * 1 / 5, 0);
        parts("23", "123", 1000 - 333, 2000 * 1 / 5, 0);
        parts("13", "123", 1000 - 333, 0, 0);
        parts("123", "193", 1000 - 333, 0, 0);
        parts("123", "923", 1000 - 333, 2000 * 1 / 6, 0);
        parts("123", "129", 1000 - 333, 2000 * 1 / 6, 0);
        // two that are changed about are two changes
        parts("12", "21", 0, 0, 0);
        parts("1234", "1324", 500, 0, 0);
        // one is taken out and one is put in, which is less than to change four
        parts("12345", "23451", 1000 - 2000 / 5, 2000 * 2 / 10, 0);
        parts("kitten", "sitting", 1000 - 3000 / 7, 2000 * 1 / 13, 0);
    }

    /** "Divisions are rounded down": 1000 D / m, and then it is taken from 1000. */
    private static void lettersAreRoundedDown() {
        // 1000 / 3 is 333, and 2000 / 3 is 666
        parts("111", "112", 667, 2000 * 1 / 6, 0);
        parts("111", "122", 334, 0, 0);
        parts("1111111", "1111112", 1000 - 142, 2000 * 2 / 7, 0);
        parts("111111", "111112", 1000 - 166, 2000 * 2 / 7, 0);
        // 6000 / 7 is 857: 4 * 143 is 572, where 4 * 142 would be 568
        parts("1234567", "1abcdef", 143, 0, 0);
        // 4000 / 6 is 666 and T is 333: their sum comes to 2002, which a number rounded otherwise would miss
        parts("322222", "32", 334, 333, 0);
    }

    /** "of two NAMEs with the lengths m and n of their PLAIN forms, which are not empty". */
    private static void lettersOfEmptyForms() {
        parts("--", "--", 0, 0, 0);
        parts("--", "a", 0, 0, 0);
        parts("1", " ", 0, 0, 0);
        KindredBooks books = new KindredBooks();
        int one = Checks.named(books, 0, "--");
        int other = Checks.named(books, 0, "--");
        Checks.line(books, 0, one, KindredBooks.NAME, "12");
        CHECKS.same("an empty one and others", books.likeness(0, one, other), 0);
        Checks.line(books, 0, other, KindredBooks.NAME, "12");
        CHECKS.same("both have another one", books.likeness(0, one, other), 600);
    }

    /** The shortest and the longest PLAIN forms. */
    private static void lettersOfOneAndForty() {
        String forty = "1".repeat(40);
        parts("1", "1", 1000, 1000, 0);
        parts(forty, forty, 1000, 1000, 0);
        parts(forty, "1", 25, 0, 0);
        parts(forty, forty.substring(1), 975, 1000, 0);
        parts(forty, "2".repeat(40), 0, 0, 0);
        parts(forty, forty.substring(1) + "2", 975, 2000 * 2 / 7, 0);
        parts(forty, "2" + forty.substring(1), 975, 2000 * 2 / 7, 0);
        String different = "a1b2c3d4e5f6g7h8i9j0k1l2m3n4o5p6q7r8s9t0";
        parts(different, different.toUpperCase(), 1000, 1000, 1000);
        parts(different, different.substring(0, 39) + "z", 975, 2000 * 38 / 80, 1000);
    }

    /** "all rows of three bytes side by side in its PLAIN form with one blank more in front and one behind". */
    private static void piecesOfShortNames() {
        // one piece of a sign alone, two of two signs
        parts("1", "1 1", 334, 2000 * 1 / 3, 0);
        parts("12", "1 2", 667, 0, 0);
        parts("12", "12 12", 1000 - 3000 / 5, 2000 * 2 / 5, 0);
    }

    /** "of two NAMEs with p and q different pieces": a piece that comes again is counted once, in p, in q and in both. */
    private static void piecesAreCountedOnce() {
        parts("1111", "111111", 1000 - 2000 / 6, 1000, 0);
        parts("111", "1112", 750, 2000 * 2 / 7, 0);
        parts("12 12 12", "12 12", 1000 - 3000 / 8, 1000, 0);
        parts("121212", "1212", 1000 - 2000 / 6, 1000, 0);
    }

    /** The blanks at the ends are of the pieces, those ahead of and behind the words of the text are not. */
    private static void piecesHaveABlankAtEachEnd() {
        parts("123", "1239", 750, 2000 * 2 / 7, 0);
        parts("123", "9123", 750, 2000 * 2 / 7, 0);
        parts("  12", "12--", 1000, 1000, 0);
        // the blank between two words makes like pieces as those at the ends do
        parts("34", "12 34", 1000 - 3000 / 5, 2000 * 2 / 7, 0);
        parts("12", "12 34", 1000 - 3000 / 5, 2000 * 2 / 7, 0);
    }

    /** "2000 times those that both have, divided by p + q". */
    private static void piecesAreRoundedDown() {
        // 2000 / 7 is 285, 4000 / 7 is 571
        parts("123", "12 9", 500, 2000 * 1 / 7, 0);
        parts("123", "1299", 500, 2000 * 1 / 7, 0);
        parts("123", "1239", 750, 2000 * 2 / 7, 0);
        // 4000 / 6 is 666, and the sum comes to 2668
        parts("21", "212121", 334, 666, 0);
        // 4000 / 10 is 400, where those of both would be less of those of either
        parts("12", "312", 667, 400, 0);
        // one piece of forty and forty, the least that there can be above 0
        String one = "abcdefghijklmnopqrstuvwxyz0123456789aceg";
        String other = "0a1b2c3d4e5f6g7h8i9j0k1l2m3n4o5p6q7r8seg";
        parts("12", "123456", 1000 - 4000 / 6, 2000 * 1 / 8, 0);
        parts(one, other, 75, 2000 * 1 / 80, 1000);
    }

    /** "S: 1000 if two NAMEs have the same SOUND, which is not empty." */
    private static void soundsThatAreTheSame() {
        parts("1b", "b2", 0, 0, 1000);
        parts("1b", "p2", 0, 0, 0);
        parts("12", "21", 0, 0, 0);
        parts("12", "34", 0, 0, 0);
        parts("bo", "ba", 500, 0, 1000);
        // the first five signs alone are asked
        parts("abcdlmr9", "abcdlrm7", 1000 - 3000 / 8, 2000 * 4 / 16, 1000);
        parts("abcdl", "abcdr", 800, 2000 * 3 / 10, 0);
    }

    private static void ways(String one, String other, boolean areSame) {
        KindredBooks books = new KindredBooks();
        int left = books.entry(0);
        int right = books.entry(0);
        Checks.line(books, 0, left, KindredBooks.WAY, one);
        Checks.line(books, 0, right, KindredBooks.WAY, other);
        CHECKS.same("likeness by \"" + one + "\" and \"" + other + "\"", books.likeness(0, left, right), areSame ? 200 : 0);
        CHECKS.same("looked at \"" + one + "\" and \"" + other + "\"", books.looked(0), areSame ? 1 : 0);
    }

    /** "C: 1000 if two WAYs have the same CALL form, which is not empty." */
    private static void callsThatAreTheSame() {
        ways("030 1", "+49301", true);
        ways("030 1", "+49302", false);
        ways("030 1", "+4930", false);
        ways("Ann@x", "ann x", true);
        ways("--", "--", false);
        ways("+", "+", false);
        ways("00", "0-0", true);
        ways("00", "+", false);
        ways("0", "+49", true);
        KindredBooks books = new KindredBooks();
        int one = books.entry(0);
        int other = books.entry(0);
        Checks.line(books, 0, one, KindredBooks.WAY, "030 1");
        Checks.line(books, 0, other, KindredBooks.WAY, "+49301");
        books.setCountry(48);
        CHECKS.same("in another country", books.likeness(0, one, other), 0);
        Checks.line(books, 0, one, KindredBooks.NAME, "x");
        Checks.line(books, 0, other, KindredBooks.WAY, "x");
        CHECKS.same("a NAME and a WAY are no pair", books.likeness(0, one, other), 0);
    }

    /** "(4 E + 2 T + 2 S + 2 C) / 10", rounded down. */
    private static void likenessIsRoundedDown() {
        // 4 * 667 + 2 * 333 + 2000 is 5334
        parts("bob", "bop", 667, 333, 1000);
        // 4 * 667 is 2668
        parts("13", "123", 667, 0, 0);
        // 4 * 734 + 2 * 538 is 4012
        parts("1aban111abdb2aa", "1a111abdm2aa", 734, 538, 0);
        // 4 * 858 + 2 * 571 is 4574
        parts("1111111", "1111112", 858, 571, 0);
    }

    /** E counts four times, T, S and C twice, each by itself. */
    private static void likenessOfEachPart() {
        parts("13", "1", 500, 0, 0);
        parts("1b", "b2", 0, 0, 1000);
        // T alone: one piece of seven and six, at places that are far from each other
        parts("123456", "99456", 1000 - 3000 / 6, 2000 * 2 / 11, 0);
        ways("1", "01", true);
        KindredBooks books = new KindredBooks();
        int one = Checks.named(books, 0, "a");
        int other = Checks.named(books, 0, "a");
        CHECKS.same("without C", books.likeness(0, one, other), 800);
        Checks.line(books, 0, one, KindredBooks.WAY, "1");
        Checks.line(books, 0, other, KindredBooks.WAY, "1");
        CHECKS.same("with all", books.likeness(0, one, other), 1000);
    }

    /** "All of them are asked of each pair of a line of the one and a line of the other one .., and the greatest number counts". */
    private static void likenessIsTheGreatestOfEachPair() {
        KindredBooks books = new KindredBooks();
        int one = Checks.named(books, 0, "1b");
        int other = Checks.named(books, 0, "b2");
        CHECKS.same("S of the first pair", books.likeness(0, one, other), 200);
        Checks.line(books, 0, one, KindredBooks.NAME, "77");
        CHECKS.same("a third line", books.likeness(0, one, other), 200);
        Checks.line(books, 0, other, KindredBooks.NAME, "7");
        CHECKS.same("E of the second pair", books.likeness(0, one, other), 400);
        Checks.line(books, 0, one, KindredBooks.NAME, "777777777777");
        CHECKS.same("a lesser E", books.likeness(0, one, other), 400);
        Checks.line(books, 0, other, KindredBooks.NAME, "777799999999");
        CHECKS.same("T of another pair, a lesser E", books.likeness(0, one, other), (4 * 500 + 2 * (2000 * 2 / 9) + 2000) / 10);
        Checks.line(books, 0, one, KindredBooks.WAY, "1");
        Checks.line(books, 0, one, KindredBooks.WAY, "2");
        Checks.line(books, 0, other, KindredBooks.WAY, "3");
        Checks.line(books, 0, other, KindredBooks.WAY, "02");
        CHECKS.same("C of the last pair", books.likeness(0, other, one), (4 * 500 + 2 * (2000 * 2 / 9) + 4000) / 10);
        int third = books.entry(0);
        Checks.line(books, 0, third, KindredBooks.NAME, "77");
        CHECKS.same("a third entry", books.likeness(0, third, other), (4 * 500 + 2 * (2000 * 1 / 8)) / 10);
        books.join(0, third, one);
        CHECKS.same("joined", books.likeness(0, third, other), (4 * 500 + 2 * (2000 * 2 / 9) + 4000) / 10);
    }

    /** "0 without a pair". */
    private static void likenessWithoutAPair() {
        KindredBooks books = new KindredBooks();
        int one = books.entry(0);
        int other = books.entry(0);
        CHECKS.same("without lines", books.likeness(0, one, other), 0);
        Checks.line(books, 0, one, KindredBooks.NAME, "Ann");
        Checks.line(books, 0, one, KindredBooks.WAY, "1");
        CHECKS.same("lines of one alone", books.likeness(0, one, other), 0);
        for (int kind : new int[] {KindredBooks.PLACE, KindredBooks.NOTE}) {
            Checks.line(books, 0, one, kind, "York");
            Checks.line(books, 0, other, kind, "York");
        }
        Checks.line(books, 0, one, KindredBooks.DAY, "2000-01-01");
        Checks.line(books, 0, other, KindredBooks.DAY, "2000-01-01");
        CHECKS.same("PLACEs, DAYs and NOTEs are not asked", books.likeness(0, one, other), 0);
        CHECKS.same("nor looked at", books.looked(0), 0);
        Checks.line(books, 0, other, KindredBooks.PLACE, "Ann");
        Checks.line(books, 0, other, KindredBooks.WAY, "Ann");
        Checks.line(books, 0, other, KindredBooks.NAME, "1");
        CHECKS.same("kinds are not mixed", books.likeness(0, one, other), 0);
    }

    /** "that stand": those that are taken back, or of what is gone, are not asked; those that are not shown are. */
    private static void likenessOfLinesThatStand() {
        KindredBooks books = new KindredBooks();
        int one = books.entry(0);
        int other = Checks.named(books, 0, "12");
        int line = Checks.line(books, 0, one, KindredBooks.NAME, "12");
        Checks.line(books, 0, one, KindredBooks.NAME, "99");
        CHECKS.same("not shown, but it stands", books.likeness(0, one, other), 600);
        int back = books.back(0, line);
        CHECKS.same("taken back", books.likeness(0, one, other), 0);
        books.back(0, back);
        int third = books.entry(0);
        books.join(0, third, one);
        CHECKS.same("of the group", books.likeness(0, third, other), 600);
        books.gone(0, one);
        CHECKS.same("of what is gone", books.likeness(0, third, other), 0);
        books.hear(1, 0);
        Checks.line(books, 1, third, KindredBooks.NAME, "12");
        CHECKS.same("not known", books.likeness(0, third, other), 0);
        CHECKS.same("known there", books.likeness(1, third, other), 600);
    }

    /** "1000 if they are one group": without any lines, too, and of one entry. */
    private static void likenessOfOneGroup() {
        KindredBooks books = new KindredBooks();
        int one = books.entry(0);
        int other = books.entry(0);
        CHECKS.same("one entry", books.likeness(0, one, one), 1000);
        CHECKS.same("two", books.likeness(0, one, other), 0);
        books.join(0, one, other);
        CHECKS.same("one group", books.likeness(0, other, one), 1000);
        CHECKS.same("no pair to look at", books.looked(0), 0);
        CHECKS.same("no pair to suggest", books.suggest(0, 401), 0);
    }

    /** "bar: 401 to 1000". */
    private static void barIsFourHundredAndOneToThousand() {
        KindredBooks books = new KindredBooks();
        int one = Checks.named(books, 0, "Ann");
        int other = Checks.named(books, 0, "Ann");
        CHECKS.same("401", books.suggest(0, 401), 1);
        CHECKS.throwsA("400", Checks.ARGUMENT, () -> books.suggest(0, 400));
        CHECKS.throwsA("1001", Checks.ARGUMENT, () -> books.suggest(0, 1001));
        CHECKS.same("1000", books.suggest(0, 1000), 0);
        Checks.line(books, 0, one, KindredBooks.WAY, "1");
        Checks.line(books, 0, other, KindredBooks.WAY, "1");
        CHECKS.same("1000 of likeness 1000", books.suggest(0, 1000), 1);
        CHECKS.same("the likeness", books.suggested(0, 2), 1000);
    }

    /** "whose likeness is at least a bar": 400, 401 and 402, and others at, above and below. */
    private static void suggestsAtTheBar() {
        String[][] names = {{"13", "1"}, {"1aban111abdb2aa", "1a111abdm2aa"}, {"bob", "bop"}, {"a", "a"}};
        int[] due = {200, 401, 533, 800};
        for (int i = 0; i < names.length; i++) {
            KindredBooks books = new KindredBooks();
            Checks.named(books, 0, names[i][0]);
            Checks.named(books, 0, names[i][1]);
            CHECKS.same("likeness", books.likeness(0, 0, 2), due[i]);
            CHECKS.same("below", books.suggest(0, Math.max(401, due[i] - 1)), due[i] < 401 ? 0 : 1);
            CHECKS.same("at", books.suggest(0, Math.max(401, due[i])), due[i] < 401 ? 0 : 1);
            CHECKS.same("above", books.suggest(0, Math.max(401, due[i] + 1)), 0);
        }
        KindredBooks books = new KindredBooks();
        Checks.named(books, 0, "dd");
        Checks.named(books, 0, "d");
        CHECKS.same("a likeness of 400", books.likeness(0, 0, 2), 400);
        CHECKS.same("it is below each bar", books.suggest(0, 401), 0);
    }

    private static void isSuggested(KindredBooks books, int index, int lesser, int greater, int likeness) {
        CHECKS.same("lesser group at " + index, books.suggested(index, 0), lesser);
        CHECKS.same("other group at " + index, books.suggested(index, 1), greater);
        CHECKS.same("likeness at " + index, books.suggested(index, 2), likeness);
    }

    /** "the greatest likeness first, of like ones the pair whose lesser group has the lesser number, then that whose other one". */
    private static void suggestsTheGreatestFirst() {
        KindredBooks books = new KindredBooks();
        int a = Checks.named(books, 0, "bob");
        int b = Checks.named(books, 0, "bop");
        int c = Checks.named(books, 0, "12");
        int d = Checks.named(books, 0, "bob");
        int e = Checks.named(books, 0, "12");
        int f = Checks.named(books, 0, "12");
        CHECKS.same("suggest", books.suggest(0, 533), 6);
        isSuggested(books, 0, a, d, 800);
        isSuggested(books, 1, c, e, 600);
        isSuggested(books, 2, c, f, 600);
        isSuggested(books, 3, e, f, 600);
        isSuggested(books, 4, a, b, 533);
        isSuggested(books, 5, b, d, 533);
        CHECKS.throwsA("behind the last one", Checks.INDEX, () -> books.suggested(6, 0));
        CHECKS.same("suggest above", books.suggest(0, 534), 4);
        isSuggested(books, 3, e, f, 600);
        CHECKS.throwsA("behind the last one now", Checks.INDEX, () -> books.suggested(4, 0));
    }

    /** "of like ones the pair whose lesser group has the lesser number", though its other one has a greater number. */
    private static void suggestsTheLesserFirst() {
        KindredBooks books = new KindredBooks();
        for (String name : new String[] {"12", "34", "56", "56", "34", "12"}) {
            Checks.named(books, 0, name);
        }
        CHECKS.same("suggest", books.suggest(0, 401), 3);
        isSuggested(books, 0, 0, 10, 600);
        isSuggested(books, 1, 2, 8, 600);
        isSuggested(books, 2, 4, 6, 600);
    }

    /** Many pairs of many likenesses: each is told at its place. */
    private static void suggestsManyInTheirOrder() {
        KindredBooks books = new KindredBooks();
        Model model = new Model();
        for (int i = 0; i < 40; i++) {
            books.entry(0);
            model.entry(0);
            for (char sign : new char[] {'a', 'n', "bd".charAt(i % 2), (char) ('a' + i * i % 7)}) {
                books.type(sign);
                model.type(sign);
            }
            books.line(0, 2 * i, KindredBooks.NAME);
            model.line(0, 2 * i, KindredBooks.NAME);
        }
        int pairs = books.suggest(0, 401);
        CHECKS.same("suggest", pairs, model.suggest(0, 401));
        int before = 1000;
        for (int i = 0; i < pairs; i++) {
            if (i < 60 || i > pairs - 10) {
                for (int what = 0; what < 3; what++) {
                    CHECKS.same("place " + i + ", what " + what, books.suggested(i, what), model.suggested(i, what));
                }
            }
            CHECKS.isTrue("falling", model.suggested(i, 2) <= before);
            before = model.suggested(i, 2);
        }
        CHECKS.isTrue("of some likenesses: " + pairs + " pairs down to " + before, pairs > 100 && before < 700);
    }

    /** "Finds all pairs of groups": a group comes by its number, whichever of its entries has the lines. */
    private static void suggestsPairsOfGroups() {
        KindredBooks books = new KindredBooks();
        int a = books.entry(0);
        int b = books.entry(0);
        int c = Checks.named(books, 0, "Ann");
        int d = Checks.named(books, 0, "Ann");
        books.join(0, c, b);
        CHECKS.same("suggest", books.suggest(0, 401), 1);
        isSuggested(books, 0, b, d, 800);
        books.join(0, d, a);
        CHECKS.same("the lesser one turns", books.suggest(0, 401), 1);
        isSuggested(books, 0, a, b, 800);
        books.join(0, a, b);
        CHECKS.same("one group", books.suggest(0, 401), 0);
        CHECKS.same("in another book", books.suggest(1, 401), 0);
    }

    /** "that forbids() does not forbid to join". */
    private static void suggestsNothingThatIsForbidden() {
        KindredBooks books = new KindredBooks();
        int a = Checks.named(books, 0, "Ann");
        int b = Checks.named(books, 0, "Ann");
        int c = books.entry(0);
        int never = books.never(0, b, a);
        CHECKS.same("forbidden", books.suggest(0, 401), 0);
        books.back(0, never);
        CHECKS.same("no more", books.suggest(0, 401), 1);
        books.join(0, c, a);
        books.never(0, b, c);
        CHECKS.same("by another entry of the group", books.suggest(0, 401), 0);
        CHECKS.same("but looked at", books.looked(0), 1);
        books.gone(0, c);
        CHECKS.same("whose entry is gone", books.suggest(0, 401), 1);
    }

    private static void suggestsNothing() {
        KindredBooks books = new KindredBooks();
        CHECKS.same("of no groups", books.suggest(0, 401), 0);
        CHECKS.throwsA("the first one", Checks.INDEX, () -> books.suggested(0, 0));
        Checks.named(books, 0, "Ann");
        CHECKS.same("of one group", books.suggest(0, 401), 0);
        books.entry(0);
        CHECKS.same("of two without a likeness", books.suggest(0, 401), 0);
        CHECKS.throwsA("the first one", Checks.INDEX, () -> books.suggested(0, 0));
    }

    /** The groups of the last entries that can have a line. */
    private static void suggestsTheLastGroups() {
        KindredBooks books = new KindredBooks();
        Checks.fill(books, 248);
        Checks.line(books, 2, 247, KindredBooks.NAME, "a");
        Checks.line(books, 2, 246, KindredBooks.NAME, "a");
        CHECKS.same("suggest", books.suggest(2, 800), 1);
        isSuggested(books, 0, 246, 247, 800);
        CHECKS.same("looked", books.looked(2), 1);
        CHECKS.same("elsewhere", books.suggest(0, 401), 0);
    }

    /** "They stay as they are until the next call of this method that throws no exception." */
    private static void suggestionsStay() {
        KindredBooks books = new KindredBooks();
        int a = Checks.named(books, 0, "Ann");
        int b = Checks.named(books, 0, "Ann");
        books.suggest(0, 401);
        books.gone(0, a);
        books.setCountry(1);
        Checks.type(books, "Ann");
        books.search(0, KindredBooks.PART);
        books.yearly(0, 2000, 1, 1, 0);
        CHECKS.throwsA("a bar below", Checks.ARGUMENT, () -> books.suggest(0, 400));
        CHECKS.throwsA("a bar above", Checks.ARGUMENT, () -> books.suggest(1, 1001));
        CHECKS.throwsA("no book", Checks.INDEX, () -> books.suggest(3, 401));
        isSuggested(books, 0, a, b, 800);
        CHECKS.same("another book", books.suggest(2, 401), 0);
        CHECKS.throwsA("none stays", Checks.INDEX, () -> books.suggested(0, 0));
    }

    /** "index: its place among those that suggest() found", "what: 0 .. 1 .. 2". */
    private static void tellsOfSuggestions() {
        KindredBooks books = new KindredBooks();
        CHECKS.throwsA("without a suggest()", Checks.INDEX, () -> books.suggested(0, 0));
        for (int i = 0; i < 3; i++) {
            Checks.named(books, 0, "Ann");
        }
        CHECKS.same("three pairs", books.suggest(0, 401), 3);
        isSuggested(books, 2, 2, 4, 800);
        CHECKS.throwsA("index 3", Checks.INDEX, () -> books.suggested(3, 0));
        CHECKS.throwsA("index -1", Checks.INDEX, () -> books.suggested(-1, 0));
        CHECKS.throwsA("what 3", Checks.ARGUMENT, () -> books.suggested(2, 3));
        CHECKS.throwsA("what -1", Checks.ARGUMENT, () -> books.suggested(2, -1));
        CHECKS.throwsA("both", Checks.INDEX, () -> books.suggested(3, 3));
    }

    /** "Two groups have something in common if T, S or C is above 0": not E. */
    private static void commonByEachPart() {
        parts("13", "1", 500, 0, 0);
        parts("abxcd", "abyce", 600, 2000 * 1 / 10, 0);
        parts("1b", "b2", 0, 0, 1000);
        ways("1", "01", true);
        ways("1", "2", false);
        KindredBooks books = new KindredBooks();
        CHECKS.same("no groups", books.looked(0), 0);
        books.entry(0);
        CHECKS.same("one group", books.looked(0), 0);
        books.entry(0);
        CHECKS.same("two without lines", books.looked(0), 0);
        CHECKS.throwsA("no book", Checks.INDEX, () -> books.looked(3));
    }

    /** "Counts the pairs of groups of a book that have something in common." */
    private static void lookedCountsEachPairOnce() {
        KindredBooks books = new KindredBooks();
        int a = Checks.named(books, 0, "Ann");
        int b = Checks.named(books, 0, "Ann");
        Checks.line(books, 0, a, KindredBooks.WAY, "1");
        Checks.line(books, 0, b, KindredBooks.WAY, "1");
        CHECKS.same("by T, S and C", books.looked(0), 1);
        Checks.line(books, 0, a, KindredBooks.NAME, "Ann");
        CHECKS.same("by more lines", books.looked(0), 1);
        int c = Checks.named(books, 0, "Ann");
        CHECKS.same("of three", books.looked(0), 3);
        books.never(0, a, b);
        CHECKS.same("of what is forbidden, too", books.looked(0), 3);
        Checks.named(books, 0, "12");
        CHECKS.same("with a fourth one", books.looked(0), 3);
        books.join(0, c, b);
        CHECKS.same("joined", books.looked(0), 1);
        books.gone(0, a);
        CHECKS.same("gone", books.looked(0), 0);
    }

    /** As many pairs as 250 changes can make: 125 groups with a line each. */
    private static void lookedOfManyGroups() {
        KindredBooks books = new KindredBooks();
        for (int i = 0; i < 125; i++) {
            books.entry(0);
            books.type('1');
            books.line(0, 2 * i, KindredBooks.WAY);
        }
        CHECKS.same("looked", books.looked(0), 125 * 124 / 2);
        CHECKS.same("of likeness 200", books.suggest(0, 401), 0);
        CHECKS.same("errors", books.errors(0), 0);
        CHECKS.same("likeness of the last ones", books.likeness(0, 246, 248), 200);
    }
}
