/** The edges of promises 35 and 36: one test for each sentence. */
public final class EdgesOfSearchTest {
    private static final Checks CHECKS = new Checks("EdgesOfSearchTest");
    private static final int BEGINS = KindredBooks.BEGINS;
    private static final int PART = KindredBooks.PART;
    private static final int NEAR = KindredBooks.NEAR;

    public static void main(String[] args) {
        howIsOneOfThree();
        textMustHaveWords();
        eachByteOfTheText();
        textStays();
        textOfOneToFourHundredBytes();
        beginsWithTheWholeWord();
        beginsEachWord();
        beginsTheLeastOfSeveral();
        partAtEachPlace();
        partAcrossWords();
        partIsTheFirstPlace();
        partOfTheSameLength();
        nearByNothing();
        nearByOneOfEachKind();
        nearByTwoAndNotByThree();
        nearOfShortWords();
        nearIsOfAWord();
        nearTheLeastOfSeveral();
        rankIsTheLeastOfAllNames();
        onlyNamesThatStand();
        groupsByRanksAndNumbers();
        findsOfAllGroups();
        findsOfTheLastGroups();
        findsStay();
        tellsOfFinds();
        CHECKS.end();
    }

    /** A search in names that are entries 0, 2, 4 and so on: the groups and ranks that are due, one behind the other. */
    private static void finds(String[] names, int how, String text, int... due) {
        KindredBooks books = new KindredBooks();
        for (String name : names) {
            Checks.named(books, 0, name);
        }
        isFound(books, how, text, due);
    }

    private static void isFound(KindredBooks books, int how, String text, int... due) {
        books.clearText();
        Checks.type(books, text);
        String call = "search for \"" + text + "\", way " + how;
        CHECKS.same(call, books.search(0, how), due.length / 2);
        for (int i = 0; i < due.length / 2; i++) {
            int place = i;
            CHECKS.same(call + ", group " + i, Checks.outcome(() -> books.found(place, false)), String.valueOf(due[2 * i]));
            CHECKS.same(call + ", rank " + i, Checks.outcome(() -> books.found(place, true)), String.valueOf(due[2 * i + 1]));
        }
        CHECKS.throwsA(call + ", behind it", Checks.INDEX, () -> books.found(due.length / 2, true));
    }

    private static void ranks(String name, int how, String text, int due) {
        finds(new String[] {name}, how, text, due < 0 ? new int[0] : new int[] {0, due});
    }

    /** "how: BEGINS, PART or NEAR". */
    private static void howIsOneOfThree() {
        KindredBooks books = new KindredBooks();
        Checks.named(books, 0, "Ann");
        Checks.type(books, "Ann");
        for (int how = 0; how < 3; how++) {
            CHECKS.same("way " + how, books.search(0, how), 1);
        }
        CHECKS.throwsA("way -1", Checks.ARGUMENT, () -> books.search(0, -1));
        CHECKS.throwsA("way 3", Checks.ARGUMENT, () -> books.search(0, 3));
        CHECKS.same("in a book without names", books.search(2, 0), 0);
        CHECKS.throwsA("in no book", Checks.INDEX, () -> books.search(3, 0));
    }

    /** "Throws IllegalStateException if the PLAIN form of the text is empty". */
    private static void textMustHaveWords() {
        for (String text : new String[] {"", " ", "-/().", "\u0001", "\u007f\u00e9\u00ff", "@[`{/:"}) {
            KindredBooks books = new KindredBooks();
            Checks.named(books, 0, "--");
            Checks.named(books, 0, "a");
            Checks.type(books, text);
            for (int i = 0; i < 3; i++) {
                int how = i;
                CHECKS.throwsA("search for \"" + text + "\"", Checks.STATE, () -> books.search(0, how));
            }
            CHECKS.same("its length stays", books.type(0), text.length());
            books.type('0');
            CHECKS.same("a digit is enough", books.search(0, PART), 0);
        }
    }

    /** "rows of letters and digits": each byte that can be typed, alone and between two letters; 127 to 255 are none. */
    private static void eachByteOfTheText() {
        for (int sign = 1; sign < 256; sign++) {
            boolean isOfWord = sign < 127 && Character.isLetterOrDigit(sign);
            String between = isOfWord ? String.valueOf((char) sign) : " ";
            KindredBooks books = new KindredBooks();
            Checks.named(books, 0, "ab a" + between + "b");
            books.type(sign);
            String due = isOfWord ? "1" : Checks.STATE;
            CHECKS.same("byte " + sign + " alone", Checks.outcome(() -> books.search(0, PART)), due);
            isFound(books, PART, "A" + (char) sign + "B", 0, 3);
        }
    }

    /** "the PLAIN form of the text, which stays". */
    private static void textStays() {
        KindredBooks books = new KindredBooks();
        int ann = Checks.named(books, 0, "Ann");
        Checks.type(books, "-A");
        books.search(0, BEGINS);
        CHECKS.same("its length", books.type('N'), 3);
        CHECKS.same("goes on", books.search(0, BEGINS), 1);
        CHECKS.same("the rank", books.found(0, true), 1);
        CHECKS.same("the text as it is", Checks.form(books, books.line(0, ann, KindredBooks.NOTE), 0), "-AN");
    }

    /** A text can have up to 400 bytes, a NAME 40. */
    private static void textOfOneToFourHundredBytes() {
        String forty = "1234567890".repeat(4);
        ranks("a", BEGINS, "a", 0);
        ranks(forty, BEGINS, forty, 0);
        ranks(forty, PART, forty, 0);
        ranks(forty, NEAR, forty, 0);
        ranks(forty, BEGINS, forty + "1", -1);
        ranks(forty, PART, forty + "1", -1);
        ranks(forty, NEAR, forty + "1", 1);
        ranks(forty, NEAR, forty + "12", 2);
        ranks(forty, NEAR, forty + "123", -1);
        ranks(forty, NEAR, forty.repeat(10), -1);
        ranks(forty, PART, forty.repeat(10), -1);
        ranks(forty, BEGINS, forty.repeat(10), -1);
        ranks("x", PART, "-".repeat(399) + "x", 0);
        ranks("x", BEGINS, "-".repeat(399) + "X", 0);
        ranks("x", NEAR, "\u00ff".repeat(399) + "x", 0);
    }

    /** "a word of the NAME begins with it; the rank is how many bytes more the word has": from 0 on. */
    private static void beginsWithTheWholeWord() {
        ranks("Anna", BEGINS, "anna", 0);
        ranks("Anna", BEGINS, "ann", 1);
        ranks("Anna", BEGINS, "a", 3);
        ranks("Anna", BEGINS, "annab", -1);
        ranks("Anna", BEGINS, "nna", -1);
        ranks("Anna", BEGINS, "anne", -1);
        ranks("--", BEGINS, "a", -1);
    }

    /** "a word of the NAME": each of them, from its first byte, and none across a blank. */
    private static void beginsEachWord() {
        ranks("x-Anna", BEGINS, "ann", 1);
        ranks("x y Anna", BEGINS, "anna", 0);
        ranks("xAnna", BEGINS, "anna", -1);
        ranks("Ann Lee", BEGINS, "ann", 0);
        ranks("Ann Lee", BEGINS, "lee", 0);
        ranks("Ann Lee", BEGINS, "annl", -1);
        ranks("Ann Lee", BEGINS, "ann l", -1);
        ranks("Ann Lee", BEGINS, "ann lee", -1);
        ranks("4711 9", BEGINS, "47", 2);
    }

    /** "the least of several". */
    private static void beginsTheLeastOfSeveral() {
        ranks("Annabel Anna Anne", BEGINS, "ann", 1);
        ranks("Annabel Ann", BEGINS, "ann", 0);
        ranks("Ann Annabel", BEGINS, "ann", 0);
        ranks("Annabella Annabel", BEGINS, "annabe", 1);
    }

    /** "PART: it stands in the PLAIN form of the NAME; the rank is the first place": from the first to the last one. */
    private static void partAtEachPlace() {
        ranks("Annabel", PART, "a", 0);
        ranks("Annabel", PART, "nn", 1);
        ranks("Annabel", PART, "bel", 4);
        ranks("Annabel", PART, "l", 6);
        ranks("Annabel", PART, "lx", -1);
        ranks("--Annabel", PART, "annabel", 0);
        ranks("--", PART, "a", -1);
        ranks("1234567890123456789012345678901234567x90", PART, "x90", 37);
    }

    /** It stands in the PLAIN form, blanks with it: one for each row of other signs. */
    private static void partAcrossWords() {
        ranks("Ann--Lee", PART, "n l", 2);
        ranks("Ann--Lee", PART, "ANN/LEE", 0);
        ranks("Ann--Lee", PART, "nl", -1);
        ranks("AnnLee", PART, "n l", -1);
        ranks("Ann Lee", PART, " lee", 4);
        ranks("Ann Lee", PART, "ann ", 0);
    }

    private static void partIsTheFirstPlace() {
        ranks("Hanna Ann", PART, "ann", 1);
        ranks("Ann Hanna", PART, "ann", 0);
        ranks("aab", PART, "ab", 1);
        ranks("ababc", PART, "abc", 2);
        ranks("aaaa", PART, "aa", 0);
    }

    private static void partOfTheSameLength() {
        ranks("Ann", PART, "ann", 0);
        ranks("Ann", PART, "anna", -1);
        ranks("Ann", PART, "and", -1);
        ranks("A", PART, "a", 0);
        ranks("A", PART, "b", -1);
    }

    /** "the rank is the least number of these": 0 for the word itself. */
    private static void nearByNothing() {
        ranks("Robert", NEAR, "robert", 0);
        ranks("ROBERT", NEAR, "-Robert-", 0);
        ranks("1", NEAR, "1", 0);
    }

    /** "by putting in, taking out or changing": at the front, in the middle and at the end. */
    private static void nearByOneOfEachKind() {
        for (String text : new String[] {"xrobert", "robxert", "robertx", "obert", "robrt", "rober", "xobert", "robxrt", "roberx"}) {
            ranks("Robert", NEAR, text, 1);
        }
    }

    /** "at most two bytes": two of like kinds and of others, and three. */
    private static void nearByTwoAndNotByThree() {
        for (String text : new String[] {"xxrobert", "robertxx", "xrobertx", "bert", "robe", "ober", "xxbert", "robexx", "xoberx",
            "xrober", "robexr", "orbert", "xobertx", "roberrt7"}) {
            ranks("Robert", NEAR, text, 2);
        }
        for (String text : new String[] {"xxxrobert", "robertxxx", "xrobxertx", "ert", "rob", "oer", "xxxert", "robxxx", "xobxrx",
            "xobertxx", "bertx", "trebor", "orbetr"}) {
            ranks("Robert", NEAR, text, -1);
        }
    }

    /** A word of two bytes becomes any one of two bytes, one of one or two bytes any one of one. */
    private static void nearOfShortWords() {
        ranks("a", NEAR, "b", 1);
        ranks("a", NEAR, "bc", 2);
        ranks("a", NEAR, "bcd", -1);
        ranks("a", NEAR, "bad", 2);
        ranks("a", NEAR, "bade", -1);
        ranks("ab", NEAR, "cd", 2);
        ranks("ab", NEAR, "c", 2);
        ranks("abc", NEAR, "d", -1);
        ranks("abc", NEAR, "b", 2);
        ranks("abcd", NEAR, "b", -1);
        ranks("--", NEAR, "a", -1);
        ranks("--", NEAR, "ab", -1);
    }

    /** "a word of the NAME becomes it": a word as a whole, not a part of it, and not the NAME with its blanks. */
    private static void nearIsOfAWord() {
        ranks("Ann Robert", NEAR, "robert", 0);
        ranks("Robert Ann", NEAR, "robert", 0);
        ranks("Robertson", NEAR, "robert", -1);
        ranks("Rob Ert", NEAR, "robert", -1);
        ranks("Robe Rt", NEAR, "robert", 2);
        ranks("AnnLee", NEAR, "ann lee", 1);
        ranks("Ann Lee", NEAR, "ann lee", -1);
    }

    private static void nearTheLeastOfSeveral() {
        ranks("Roberta Robert", NEAR, "robert", 0);
        ranks("Robert Roberta", NEAR, "roberta", 0);
        ranks("Robertas Roberta", NEAR, "robert", 1);
        ranks("Roberta Robertas", NEAR, "robert", 1);
    }

    /** "each with a rank, the least one of all its NAMEs": of all entries of the group, shown or not. */
    private static void rankIsTheLeastOfAllNames() {
        KindredBooks books = new KindredBooks();
        int one = Checks.named(books, 0, "Anna");
        int other = Checks.named(books, 0, "Annabel");
        int[][] ranks = {{1, 4}, {0, 0}, {1, 9}};
        isFound(books, BEGINS, "ann", one, ranks[0][0], other, ranks[0][1]);
        books.join(0, other, one);
        isFound(books, BEGINS, "ann", one, 1);
        int ann = Checks.line(books, 0, other, KindredBooks.NAME, "Ann");
        isFound(books, BEGINS, "ann", one, 0);
        int last = Checks.line(books, 0, one, KindredBooks.NAME, "Zed");
        CHECKS.same("shown", books.shownAt(0, one, KindredBooks.NAME, 0), last);
        isFound(books, BEGINS, "ann", one, 0);
        isFound(books, PART, "bel", one, 4);
        isFound(books, NEAR, "anne", one, 1);
        books.back(0, ann);
        isFound(books, BEGINS, "ann", one, 1);
    }

    /** "Searches the NAMEs that stand": no other kinds, nothing that is taken back, gone or not known. */
    private static void onlyNamesThatStand() {
        KindredBooks books = new KindredBooks();
        int one = books.entry(0);
        for (int kind : new int[] {KindredBooks.WAY, KindredBooks.PLACE, KindredBooks.NOTE}) {
            Checks.line(books, 0, one, kind, "Ann");
        }
        Checks.line(books, 0, one, KindredBooks.DAY, "2000-01-01");
        for (int how = 0; how < 3; how++) {
            isFound(books, how, "ann");
            isFound(books, how, "2000");
        }
        int name = Checks.line(books, 0, one, KindredBooks.NAME, "Ann");
        isFound(books, BEGINS, "ann", one, 0);
        int back = books.back(0, name);
        isFound(books, BEGINS, "ann");
        books.back(0, back);
        isFound(books, BEGINS, "ann", one, 0);
        books.gone(0, one);
        isFound(books, BEGINS, "ann");
        Checks.named(books, 1, "Ann");
        isFound(books, BEGINS, "ann");
    }

    /** "The groups are told by rising ranks, of like ones by their numbers." */
    private static void groupsByRanksAndNumbers() {
        String[] names = {"Annabel", "Ann", "Anna", "Ann", "Anne", "Zed", "Annabel"};
        finds(names, BEGINS, "ann", 2, 0, 6, 0, 4, 1, 8, 1, 0, 4, 12, 4);
        finds(names, PART, "n", 0, 1, 2, 1, 4, 1, 6, 1, 8, 1, 12, 1);
        finds(names, NEAR, "anna", 4, 0, 2, 1, 6, 1, 8, 1);
        finds(new String[] {"xb", "b", "xxb", "xb"}, PART, "b", 2, 0, 0, 1, 6, 1, 4, 2);
    }

    /** As many groups as 250 changes can name, with ranks that go up and down. */
    private static void findsOfAllGroups() {
        KindredBooks books = new KindredBooks();
        int[] ranks = new int[125];
        for (int i = 0; i < 125; i++) {
            ranks[i] = i * 3 % 8;
            books.entry(0);
            books.type(0x6161616161616161L >>> (8 * (7 - ranks[i])));
            books.line(0, 2 * i, KindredBooks.NAME);
        }
        books.type('a');
        CHECKS.same("all", books.search(0, BEGINS), 125);
        int place = 0;
        for (int rank = 0; rank < 8; rank++) {
            for (int i = 0; i < 125; i++) {
                if (ranks[i] == rank) {
                    CHECKS.same("group " + place, books.found(place, false), 2 * i);
                    place++;
                }
            }
        }
        CHECKS.same("the first rank", books.found(0, true), 0);
        CHECKS.same("the last rank", books.found(124, true), 7);
        CHECKS.throwsA("behind it", Checks.INDEX, () -> books.found(125, false));
    }

    /** The groups of the last entries that can have a line, and the greatest rank. */
    private static void findsOfTheLastGroups() {
        KindredBooks books = new KindredBooks();
        Checks.fill(books, 248);
        Checks.line(books, 2, 247, KindredBooks.NAME, "a");
        Checks.line(books, 2, 246, KindredBooks.NAME, "A234567890123456789012345678901234567890");
        Checks.type(books, "a");
        CHECKS.same("search", books.search(2, BEGINS), 2);
        int[] due = {247, 0, 246, 39};
        for (int i = 0; i < 2; i++) {
            CHECKS.same("group " + i, books.found(i, false), due[2 * i]);
            CHECKS.same("rank " + i, books.found(i, true), due[2 * i + 1]);
        }
        CHECKS.same("nobody has it in another book", books.search(0, BEGINS), 0);
    }

    /** "They stay as they are until the next call of this method that throws no exception." */
    private static void findsStay() {
        KindredBooks books = new KindredBooks();
        int one = Checks.named(books, 0, "Anna");
        isFound(books, BEGINS, "ann", one, 1);
        books.gone(0, one);
        books.suggest(0, 401);
        books.yearly(0, 2000, 1, 1, 0);
        CHECKS.throwsA("a way that is none", Checks.ARGUMENT, () -> books.search(0, 3));
        CHECKS.throwsA("a book that is none", Checks.INDEX, () -> books.search(-1, 0));
        books.clearText();
        CHECKS.throwsA("a text that is empty", Checks.STATE, () -> books.search(0, 0));
        CHECKS.same("the group", books.found(0, false), one);
        CHECKS.same("the rank", books.found(0, true), 1);
        books.type('a');
        CHECKS.same("searched again", books.search(0, 0), 0);
        CHECKS.throwsA("none", Checks.INDEX, () -> books.found(0, false));
    }

    /** "index: its place among them; isRank: true for its rank, false for its number". */
    private static void tellsOfFinds() {
        KindredBooks books = new KindredBooks();
        CHECKS.throwsA("without a search, the rank", Checks.INDEX, () -> books.found(0, true));
        CHECKS.throwsA("without a search, the number", Checks.INDEX, () -> books.found(0, false));
        books.entry(0);
        Checks.named(books, 0, "Anna");
        Checks.named(books, 0, "Hanna");
        isFound(books, PART, "anna", 1, 0, 3, 1);
        CHECKS.throwsA("index 2", Checks.INDEX, () -> books.found(2, false));
        CHECKS.throwsA("index -1", Checks.INDEX, () -> books.found(-1, true));
    }
}
