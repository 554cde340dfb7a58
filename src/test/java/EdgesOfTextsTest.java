/** The edges of section 3 of the document, and of promises 1 to 4, 6, 29 and 30: one test for each sentence. */
public final class EdgesOfTextsTest {
    private static final Checks CHECKS = new Checks("EdgesOfTextsTest");
    private static final String FORTY = "a234567890b234567890c234567890d234567890";
    private static final int[] TEXT_KINDS = {KindredBooks.NAME, KindredBooks.WAY, KindredBooks.PLACE, KindredBooks.NOTE};

    public static void main(String[] args) {
        newObjectIsEmpty();
        typeLeavesOutZeros();
        typePutsTheHighestFirst();
        typeEndsAtFourHundred();
        clearTextTellsTheLengthBefore();
        countryIsOneToNineHundredNinetyNine();
        lineHasOneToFortyBytes();
        lineHasBytesFrom32To126();
        lineEmptiesTheText();
        dayIsOfTheCalendar();
        dayOfEachMonth();
        dayOfEachYear();
        dayHasTenSigns();
        wordsAreLettersAndDigits();
        plainHasOneBlankBetween();
        callNeedsADigit();
        callHasNothingElse();
        callHasPerhapsOnePlus();
        callOfPlus();
        callOfTwoZeros();
        callOfOneZero();
        callOfOthers();
        callIsPlainIfNotSo();
        soundOfFirstLetter();
        soundOfClasses();
        soundLeavesOutTheSame();
        soundPassesOverDigitsAndBlanks();
        soundLeavesOutZerosAfterwards();
        soundHasFiveSigns();
        soundWithoutLetters();
        valuesOfKinds();
        writeInForms();
        writeNothingOfOthers();
        longestForms();
        pageStaysUntilTheNextWrite();
        CHECKS.end();
    }

    private static String form(int country, int form, String text) {
        KindredBooks books = new KindredBooks();
        books.setCountry(country);
        return Checks.form(books, Checks.line(books, 0, books.entry(0), KindredBooks.NOTE, text), form);
    }

    private static void plain(String text, String due) {
        CHECKS.same("PLAIN form of \"" + text + "\"", form(49, 1, text), due);
    }

    private static void call(String text, String due) {
        CHECKS.same("CALL form of \"" + text + "\"", form(49, 2, text), due);
    }

    private static void sound(String text, String due) {
        CHECKS.same("SOUND of \"" + text + "\"", form(49, 3, text), due);
    }

    /** "Creates three books that know nothing, and an empty text and page." */
    private static void newObjectIsEmpty() {
        KindredBooks books = new KindredBooks();
        CHECKS.same("the text", books.type(0), 0);
        CHECKS.throwsA("the page", Checks.INDEX, () -> books.pageAt(0));
        for (int i = 0; i < 3; i++) {
            int book = i;
            CHECKS.same("known", books.known(book), 0);
            CHECKS.same("groups", books.groups(book), 0);
            CHECKS.throwsA("the first group", Checks.INDEX, () -> books.groupAt(book, 0));
            CHECKS.throwsA("the first change", Checks.INDEX, () -> books.counts(book, 0));
            CHECKS.throwsA("the first entry", Checks.ELEMENT, () -> books.groupOf(book, 0));
        }
        CHECKS.throwsA("a fourth book", Checks.INDEX, () -> books.known(3));
        CHECKS.same("changes", books.changes(), 0);
        CHECKS.throwsA("the page of no change", Checks.INDEX, () -> books.write(0, 0));
        CHECKS.same("the error of an empty text", books.errorKind(), 0);
    }

    /** "those of a number .. without those that are 0": at each of the eight places. */
    private static void typeLeavesOutZeros() {
        KindredBooks books = new KindredBooks();
        CHECKS.same("no byte", books.type(0), 0);
        for (int place = 0; place < 8; place++) {
            books.clearText();
            CHECKS.same("one byte at " + place, books.type(1L << (8 * place)), 1);
            CHECKS.same("the greatest byte at " + place, books.type(255L << (8 * place)), 2);
            CHECKS.same("all but that at " + place, books.type(~(255L << (8 * place))), 9);
        }
        books.clearText();
        CHECKS.same("the least number", books.type(Long.MIN_VALUE), 1);
        CHECKS.same("the greatest number", books.type(Long.MAX_VALUE), 9);
        CHECKS.same("-1", books.type(-1), 17);
    }

    /** "the highest one first", "Puts bytes behind the text". */
    private static void typePutsTheHighestFirst() {
        KindredBooks books = new KindredBooks();
        int entry = books.entry(0);
        books.type(0x4100420043004400L);
        books.type(0x0045004600470048L);
        books.type('I');
        CHECKS.same("the text", Checks.form(books, books.line(0, entry, KindredBooks.NOTE), 0), "ABCDEFGHI");
    }

    /** "Throws IllegalStateException if it would be above 400": 400 and 401, by one byte and by eight. */
    private static void typeEndsAtFourHundred() {
        KindredBooks books = new KindredBooks();
        for (int i = 1; i <= 49; i++) {
            CHECKS.same("eight more", books.type(0x6161616161616161L), 8 * i);
        }
        CHECKS.same("up to 393", books.type(0x6100), 393);
        CHECKS.throwsA("401 by eight", Checks.STATE, () -> books.type(0x6161616161616161L));
        CHECKS.same("nothing of it stays", books.type(0), 393);
        CHECKS.same("400 by seven, and a 0", books.type(0x6161616100616161L), 400);
        CHECKS.same("400 by none", books.type(0), 400);
        CHECKS.throwsA("401 by one", Checks.STATE, () -> books.type(1));
        CHECKS.same("its length", books.clearText(), 400);
        for (int i = 1; i <= 50; i++) {
            CHECKS.same("from the front again", books.type(-1), 8 * i);
        }
        CHECKS.throwsA("401 by one behind eight", Checks.STATE, () -> books.type(1));
    }

    /** "Returns its length before": of an empty text 0. */
    private static void clearTextTellsTheLengthBefore() {
        KindredBooks books = new KindredBooks();
        CHECKS.same("empty", books.clearText(), 0);
        books.type('a');
        CHECKS.same("one", books.clearText(), 1);
        CHECKS.same("empty again", books.clearText(), 0);
        books.type('b');
        CHECKS.same("nothing is left", Checks.form(books, books.line(0, books.entry(0), KindredBooks.NOTE), 0), "b");
    }

    /** "number: 1 to 999", "the number of the country (49 at first)", "Returns the number before." */
    private static void countryIsOneToNineHundredNinetyNine() {
        KindredBooks books = new KindredBooks();
        int line = Checks.line(books, 0, books.entry(0), KindredBooks.WAY, "7");
        CHECKS.same("at first", Checks.form(books, line, 2), "+497");
        int before = 49;
        for (int number : new int[] {1, 999, 9, 10, 99, 100, 500, 101, 110, 1}) {
            CHECKS.same("setCountry(" + number + ")", books.setCountry(number), before);
            CHECKS.same("CALL form with " + number, Checks.form(books, line, 2), "+" + number + "7");
            before = number;
        }
        CHECKS.throwsA("0", Checks.ARGUMENT, () -> books.setCountry(0));
        CHECKS.throwsA("1000", Checks.ARGUMENT, () -> books.setCountry(1000));
        CHECKS.same("the last right one stays", books.setCountry(49), 1);
    }

    /** Whether a line can be made with a text: what it answers, and what it leaves of the text. */
    private static void isLine(int kind, String text, boolean due) {
        KindredBooks books = new KindredBooks();
        int entry = books.entry(1);
        Checks.type(books, text);
        String call = "a line of kind " + kind + " with \"" + text + "\"";
        CHECKS.same(call, Checks.outcome(() -> books.line(1, entry, kind)), due ? "1" : Checks.STATE);
        CHECKS.same(call + ", changes", books.changes(), due ? 2 : 1);
        CHECKS.same(call + ", the text", books.type(0), due ? 0 : text.length());
        if (due) {
            CHECKS.same(call + ", its text", Checks.form(books, 1, 0), text);
            CHECKS.same(call + ", its length", books.change(1, 5), text.length());
        }
    }

    /** "with a text of 1 to 40 bytes". */
    private static void lineHasOneToFortyBytes() {
        for (int kind : TEXT_KINDS) {
            isLine(kind, "", false);
            isLine(kind, "x", true);
            isLine(kind, FORTY.substring(1), true);
            isLine(kind, FORTY, true);
            isLine(kind, FORTY + "1", false);
            isLine(kind, FORTY.repeat(10), false);
        }
        isLine(KindredBooks.DAY, "", false);
    }

    /** "bytes from 32 to 126": each byte alone, and 31, 32, 126 and 127 at the first and last place. */
    private static void lineHasBytesFrom32To126() {
        for (int sign = 1; sign < 256; sign++) {
            isLine(TEXT_KINDS[sign % 4], String.valueOf((char) sign), sign >= 32 && sign <= 126);
        }
        for (int kind : TEXT_KINDS) {
            isLine(kind, "\u001fab", false);
            isLine(kind, "ab\u001f", false);
            isLine(kind, " ab ", true);
            isLine(kind, "~ab~", true);
            isLine(kind, "\u007fab", false);
            isLine(kind, "ab\u007f", false);
            isLine(kind, "a\u0080b", false);
            isLine(kind, "a\u00ffb", false);
        }
    }

    /** "Makes a LINE of an entry with the text, which is emptied then"; a text that is none for it stays. */
    private static void lineEmptiesTheText() {
        KindredBooks books = new KindredBooks();
        int entry = books.entry(0);
        Checks.type(books, "2000-02-3");
        CHECKS.throwsA("no day yet", Checks.STATE, () -> books.line(0, entry, KindredBooks.DAY));
        books.type('0');
        CHECKS.throwsA("no such day", Checks.STATE, () -> books.line(0, entry, KindredBooks.DAY));
        int line = books.line(0, entry, KindredBooks.NOTE);
        CHECKS.same("the text", Checks.form(books, line, 0), "2000-02-30");
        CHECKS.same("emptied", books.type(0), 0);
        CHECKS.throwsA("an empty one", Checks.STATE, () -> books.line(0, entry, KindredBooks.NOTE));
        books.type('x');
        CHECKS.same("from the front", Checks.form(books, books.line(0, entry, KindredBooks.NOTE), 0), "x");
    }

    /** "The text of a DAY must be a day of the calendar (.. in all years from 1 to 9999)". */
    private static void dayIsOfTheCalendar() {
        isLine(KindredBooks.DAY, "0000-12-31", false);
        isLine(KindredBooks.DAY, "0001-01-01", true);
        isLine(KindredBooks.DAY, "9999-12-31", true);
        isLine(KindredBooks.DAY, "10000-01-01", false);
        isLine(KindredBooks.DAY, "2000-00-01", false);
        isLine(KindredBooks.DAY, "2000-01-00", false);
        isLine(KindredBooks.DAY, "2000-12-31", true);
        isLine(KindredBooks.DAY, "2000-13-01", false);
        isLine(KindredBooks.DAY, "2000-99-01", false);
        isLine(KindredBooks.DAY, "2000-01-99", false);
    }

    /** The last day of each month and the one behind it, with and without a leap day. */
    private static void dayOfEachMonth() {
        int[] lengths = {31, 28, 31, 30, 31, 30, 31, 31, 30, 31, 30, 31};
        for (int year = 1999; year <= 2000; year++) {
            for (int month = 1; month <= 12; month++) {
                int last = lengths[month - 1] + (month == 2 && year == 2000 ? 1 : 0);
                String start = String.format("%04d-%02d-", year, month);
                isLine(KindredBooks.DAY, start + "01", true);
                isLine(KindredBooks.DAY, start + last, true);
                isLine(KindredBooks.DAY, start + (last + 1), false);
            }
        }
    }

    /** "with leap years as now, in all years from 1 to 9999": the 29th of February of each of these years. */
    private static void dayOfEachYear() {
        for (int year = 0; year <= 9999; year++) {
            boolean isLeap = year % 400 == 0 || year % 4 == 0 && year % 100 != 0;
            isLine(KindredBooks.DAY, String.format("%04d-02-29", year), year > 0 && isLeap);
        }
    }

    /** "as four digits, -, two digits, -, two digits": each sign of the ten by itself. */
    private static void dayHasTenSigns() {
        String day = "2011-11-11";
        isLine(KindredBooks.DAY, day, true);
        for (int place = 0; place < 10; place++) {
            boolean isDash = place == 4 || place == 7;
            for (String sign : new String[] {"/", ":", " ", "a", "+", "-", ",", ".", "1"}) {
                String other = day.substring(0, place) + sign + day.substring(place + 1);
                isLine(KindredBooks.DAY, other, isDash ? sign.equals("-") : sign.equals("1"));
            }
        }
        isLine(KindredBooks.DAY, "2011-11-1", false);
        isLine(KindredBooks.DAY, "2011-11-111", false);
        isLine(KindredBooks.DAY, "2011-11-11 ", false);
        isLine(KindredBooks.DAY, " 2011-11-11", false);
        isLine(KindredBooks.DAY, "2011-1-11", false);
        isLine(KindredBooks.DAY, "211-11-11", false);
        isLine(KindredBooks.DAY, "20111111", false);
    }

    /** "The words of a text are its rows of letters and digits .. with small letters in place of great ones": each sign. */
    private static void wordsAreLettersAndDigits() {
        for (int sign = 32; sign <= 126; sign++) {
            char one = (char) sign;
            boolean isOfWord = sign >= '0' && sign <= '9' || sign >= 'A' && sign <= 'Z' || sign >= 'a' && sign <= 'z';
            String small = String.valueOf(sign >= 'A' && sign <= 'Z' ? (char) (sign + 32) : one);
            plain(String.valueOf(one), isOfWord ? small : "");
            plain("x" + one + "y", isOfWord ? "x" + small + "y" : "x y");
        }
    }

    /** "Its PLAIN form is its words, with a blank between two": however many signs are between, and none at the ends. */
    private static void plainHasOneBlankBetween() {
        plain(" ", "");
        plain("-/-", "");
        plain("a", "a");
        plain(" a", "a");
        plain("a ", "a");
        plain("--a--", "a");
        plain("a-b", "a b");
        plain("a - b", "a b");
        plain("-.A.-.B.-", "a b");
        plain("1a 2B", "1a 2b");
        plain("a b a b a b a b a b a b a b a b a b a b ", "a b a b a b a b a b a b a b a b a b a b");
        plain("ABCDEFGHIJKLMNOPQRSTUVWXYZ", "abcdefghijklmnopqrstuvwxyz");
    }

    /** "if it has at least one digit". */
    private static void callNeedsADigit() {
        call("+", "");
        call(" ", "");
        call("-/(). ", "");
        call("+ -", "");
        call("5", "+495");
        call("(5)", "+495");
    }

    /** "and nothing else but digits, blanks, the signs - / ( ) . and perhaps one +": each sign between two digits. */
    private static void callHasNothingElse() {
        for (int sign = 32; sign <= 126; sign++) {
            char one = (char) sign;
            boolean isDigit = sign >= '0' && sign <= '9';
            boolean isLetter = sign >= 'A' && sign <= 'Z' || sign >= 'a' && sign <= 'z';
            boolean isBetween = " -/().".indexOf(one) >= 0;
            String small = String.valueOf(one).toLowerCase();
            call("1" + one + "2", isDigit ? "+491" + one + "2" : isBetween ? "+4912" : isLetter ? "1" + small + "2" : "1 2");
            String ahead = sign == '0' ? "+4912" : isDigit ? "+49" + one + "12" : isBetween ? "+4912"
                : sign == '+' ? "+12" : isLetter ? small + "12" : "12";
            call(one + "12", ahead);
        }
    }

    /** "perhaps one + ahead of all digits". */
    private static void callHasPerhapsOnePlus() {
        call("+1", "+1");
        call("++1", "1");
        call("+ +1", "1");
        call("+1+", "1");
        call("1+", "1");
        call("1+2", "1 2");
        call("+1+2", "1 2");
        call("-+1", "+1");
        call("( + ) 1", "+1");
        call("(1) + 2", "1 2");
    }

    /** "all digits, if there is a +": though they begin with 0. */
    private static void callOfPlus() {
        call("+0", "+0");
        call("+00", "+00");
        call("+001", "+001");
        call("+49 (0) 30", "+49030");
        call("+9", "+9");
    }

    /** "those behind the first two, if they begin with 00". */
    private static void callOfTwoZeros() {
        call("00", "+");
        call("001", "+1");
        call("000", "+0");
        call("0001", "+01");
        call("0 0 1", "+1");
        call("(0)-0/1", "+1");
        call("00 49 30", "+4930");
        call("0100", "+49100");
    }

    /** "those of the number of the country .. and then those behind the first one, if they begin with another 0". */
    private static void callOfOneZero() {
        call("0", "+49");
        call("01", "+491");
        call("010", "+4910");
        call(" 0-10", "+4910");
        CHECKS.same("with 1", form(1, 2, "0"), "+1");
        CHECKS.same("with 999", form(999, 2, "01"), "+9991");
    }

    /** "otherwise those of the number of the country and then all". */
    private static void callOfOthers() {
        call("1", "+491");
        call("10", "+4910");
        call("100", "+49100");
        call("9 00", "+49900");
        CHECKS.same("with 1", form(1, 2, "10"), "+110");
        CHECKS.same("with 999", form(999, 2, "9"), "+9999");
    }

    /** "If not so, it is the PLAIN form." */
    private static void callIsPlainIfNotSo() {
        call("Bob (at) 12", "bob at 12");
        call("0x0", "0x0");
        call("00,1", "00 1");
        call("+49 30 a", "49 30 a");
        call("#1", "1");
    }

    /** "of the letters of its PLAIN form the first one, as it is". */
    private static void soundOfFirstLetter() {
        for (char letter = 'a'; letter <= 'z'; letter++) {
            sound(String.valueOf(letter), String.valueOf(letter));
            sound(String.valueOf((char) (letter - 32)), String.valueOf(letter));
            sound("12 3" + letter, String.valueOf(letter));
        }
    }

    /** "1 for b f p v, 2 for c g j k q s x z, 3 for d t, 4 for l, 5 for m n, 6 for r, 0 for others": each letter. */
    private static void soundOfClasses() {
        String[] classes = {"aehiouwy", "bfpv", "cgjkqsxz", "dt", "l", "mn", "r"};
        for (int one = 0; one < classes.length; one++) {
            for (char letter : classes[one].toCharArray()) {
                sound("a" + letter, one == 0 ? "a" : "a" + one);
                // behind each letter of another class, and as the first one ahead of it
                for (int other = 1; other < classes.length; other++) {
                    char next = classes[other].charAt(classes[other].length() - 1);
                    String due = letter + (one == other ? "" : String.valueOf(other));
                    sound("" + letter + next, due);
                }
            }
        }
    }

    /** "a class that is the same as that of the letter right ahead (of the first letter, too ..) is left out". */
    private static void soundLeavesOutTheSame() {
        sound("bb", "b");
        sound("bpfv", "b");
        sound("bl", "b4");
        sound("abb", "a1");
        sound("abl", "a14");
        sound("ablb", "a141");
        sound("acgs", "a2");
        sound("addt", "a3");
        sound("Tt", "t");
    }

    /** "digits and blanks between are passed over". */
    private static void soundPassesOverDigitsAndBlanks() {
        sound("b b", "b");
        sound("b1b", "b");
        sound("b-9/8 b", "b");
        sound("ab b", "a1");
        sound("ab123b", "a1");
        sound("ab 1 l", "a14");
        sound("1b2p3f4", "b");
    }

    /** "and then each 0": a letter of class 0 between two of one class keeps both. */
    private static void soundLeavesOutZerosAfterwards() {
        sound("bab", "b1");
        sound("abab", "a11");
        sound("abhb", "a11");
        sound("abwb", "a11");
        sound("aab", "a1");
        sound("aeb", "a1");
        sound("aaaa", "a");
        sound("hue", "h");
        sound("ab a b", "a11");
    }

    /** "of all this the first five signs": four, five and six. */
    private static void soundHasFiveSigns() {
        sound("abcd", "a123");
        sound("abcdl", "a1234");
        sound("abcdlm", "a1234");
        sound("abcdlmr", "a1234");
        sound("abababab", "a1111");
        sound("a b c d e l e m", "a1234");
        sound("abcdeeeeeeeeeeeeel", "a1234");
        sound("bcdlmr", "b2345");
    }

    /** "Without letters it is empty." */
    private static void soundWithoutLetters() {
        sound(" ", "");
        sound("-", "");
        sound("0", "");
        sound("12 34", "");
    }

    private static void isSame(int kind, String one, String other, boolean due) {
        KindredBooks books = new KindredBooks();
        int entry = books.entry(0);
        Checks.line(books, 0, entry, kind, one);
        Checks.line(books, 0, entry, kind, other);
        CHECKS.same("values of \"" + one + "\" and \"" + other + "\" of kind " + kind, books.values(0, entry, kind), due ? 1 : 2);
    }

    /** "Two lines of one kind have the same value if the PLAIN forms .., the CALL forms .., the texts .. are the same." */
    private static void valuesOfKinds() {
        for (int kind : new int[] {KindredBooks.NAME, KindredBooks.PLACE}) {
            isSame(kind, "Ann Lee", "-ann--LEE-", true);
            isSame(kind, "annlee", "ann lee", false);
            isSame(kind, "ann", "anna", false);
            isSame(kind, "--", " ", true);
            isSame(kind, "--", "a", false);
            isSame(kind, "030 1", "+49301", false);
        }
        isSame(KindredBooks.WAY, "030 1", "+49301", true);
        isSame(KindredBooks.WAY, "0049301", "30-1", true);
        isSame(KindredBooks.WAY, "030 1", "030 2", false);
        isSame(KindredBooks.WAY, "Ann@x", "ann x", true);
        isSame(KindredBooks.WAY, "+", "--", true);
        isSame(KindredBooks.WAY, "00", "+", false);
        isSame(KindredBooks.NOTE, "a b", "a b", true);
        isSame(KindredBooks.NOTE, "a b", "A b", false);
        isSame(KindredBooks.NOTE, "a", "a ", false);
        isSame(KindredBooks.NOTE, "-", "--", false);
        isSame(KindredBooks.DAY, "2000-01-01", "2000-01-01", true);
        isSame(KindredBooks.DAY, "2000-01-01", "2001-01-01", false);
        KindredBooks books = new KindredBooks();
        int entry = books.entry(0);
        for (int kind : TEXT_KINDS) {
            Checks.line(books, 0, entry, kind, "same");
        }
        for (int kind : TEXT_KINDS) {
            CHECKS.same("lines of other kinds", books.values(0, entry, kind), 1);
            CHECKS.same("shown lines of other kinds", books.shown(0, entry, kind), 1);
        }
    }

    /** "form: 0 as it is, 1 PLAIN, 2 CALL, 3 SOUND", of lines of each kind. */
    private static void writeInForms() {
        KindredBooks books = new KindredBooks();
        int entry = books.entry(0);
        for (int kind : TEXT_KINDS) {
            int line = Checks.line(books, 0, entry, kind, "Dr. Zed");
            CHECKS.same("form 0", Checks.form(books, line, 0), "Dr. Zed");
            CHECKS.same("form 1", Checks.form(books, line, 1), "dr zed");
            CHECKS.same("form 2", Checks.form(books, line, 2), "dr zed");
            CHECKS.same("form 3", Checks.form(books, line, 3), "d623");
            CHECKS.throwsA("form -1", Checks.ARGUMENT, () -> books.write(line, -1));
            CHECKS.throwsA("form 4", Checks.ARGUMENT, () -> books.write(line, 4));
        }
        int day = Checks.line(books, 0, entry, KindredBooks.DAY, "2001-02-03");
        CHECKS.same("form 0 of a DAY", Checks.form(books, day, 0), "2001-02-03");
        CHECKS.same("form 1 of a DAY", Checks.form(books, day, 1), "2001 02 03");
        CHECKS.same("form 2 of a DAY", Checks.form(books, day, 2), "+4920010203");
        CHECKS.same("form 3 of a DAY", Checks.form(books, day, 3), "");
        CHECKS.throwsA("the change behind the last one", Checks.INDEX, () -> books.write(day + 1, 0));
    }

    /** "nothing of other changes": the page is empty behind it. */
    private static void writeNothingOfOthers() {
        KindredBooks books = new KindredBooks();
        int one = books.entry(0);
        int line = Checks.line(books, 0, one, KindredBooks.NOTE, "note");
        int other = books.entry(0);
        int[] changes = {one, books.join(0, one, other), books.never(0, one, other), books.member(0, one, other),
            books.back(0, line), books.gone(0, other)};
        for (int change : changes) {
            for (int form = 0; form < 4; form++) {
                CHECKS.same("a line that is taken back", books.write(line, 0), 4);
                CHECKS.same("kind " + books.change(change, 0) + ", form " + form, books.write(change, form), 0);
                CHECKS.throwsA("the page behind it", Checks.INDEX, () -> books.pageAt(0));
            }
        }
        CHECKS.same("a form without signs", books.write(Checks.line(books, 0, one, KindredBooks.NAME, "--"), 1), 0);
        CHECKS.throwsA("the page behind that", Checks.INDEX, () -> books.pageAt(0));
    }

    /** "Returns a byte of the page. index: 0 for the first one": the first and last byte of the longest forms. */
    private static void longestForms() {
        KindredBooks books = new KindredBooks();
        books.setCountry(999);
        int entry = books.entry(0);
        int name = Checks.line(books, 0, entry, KindredBooks.NAME, FORTY);
        int way = Checks.line(books, 0, entry, KindredBooks.WAY, "1234567890123456789012345678901234567898");
        int note = Checks.line(books, 0, entry, KindredBooks.NOTE, "abcdlmabcdlmabcdlmabcdlmabcdlmabcdlmabcr");
        int[][] due = {{name, 0, 40, 'a', '0'}, {name, 1, 40, 'a', '0'}, {way, 2, 44, '+', '8'}, {note, 3, 5, 'a', '4'}, {name, 2, 40, 'a', '0'}};
        for (int[] row : due) {
            String call = "form " + row[1] + " of " + row[0];
            CHECKS.same(call, books.write(row[0], row[1]), row[2]);
            CHECKS.same(call + ", the first byte", books.pageAt(0), row[3]);
            CHECKS.same(call + ", the last byte", books.pageAt(row[2] - 1), row[4]);
            CHECKS.throwsA(call + ", behind it", Checks.INDEX, () -> books.pageAt(row[2]));
            CHECKS.throwsA(call + ", ahead of it", Checks.INDEX, () -> books.pageAt(-1));
        }
    }

    /** The page is what write() wrote last, whatever becomes of the line. */
    private static void pageStaysUntilTheNextWrite() {
        KindredBooks books = new KindredBooks();
        int line = Checks.line(books, 0, books.entry(0), KindredBooks.WAY, "1");
        books.write(line, 2);
        books.setCountry(7);
        books.back(0, line);
        books.clearText();
        CHECKS.same("what was written", books.pageAt(2), '9');
        CHECKS.throwsA("a change that is none", Checks.INDEX, () -> books.write(3, 0));
        CHECKS.throwsA("a form that is none", Checks.ARGUMENT, () -> books.write(line, 4));
        CHECKS.same("it stays", books.pageAt(3), '1');
        CHECKS.same("written anew", books.write(line, 2), 3);
        CHECKS.same("with the new number", books.pageAt(1), '7');
    }
}
