/** Promises 29 and 30: the forms of texts, on the page. */
public final class TextsTest {
    private static final Checks CHECKS = new Checks("TextsTest");

    public static void main(String[] args) {
        writing();
        plain();
        calls();
        longestCall();
        sounds();
        CHECKS.end();
    }

    /** Promises 29 and 30. */
    private static void writing() {
        KindredBooks books = new KindredBooks();
        int entry = books.entry(0);
        int line = Checks.line(books, 0, entry, KindredBooks.NAME, "O'Neil");
        CHECKS.same("as it is", books.write(line, 0), 6);
        CHECKS.same("its first byte", books.pageAt(0), 'O');
        CHECKS.same("its last byte", books.pageAt(5), 'l');
        CHECKS.throwsA("behind it", Checks.INDEX, () -> books.pageAt(6));
        CHECKS.throwsA("ahead of it", Checks.INDEX, () -> books.pageAt(-1));
        CHECKS.throwsA("no such change first", Checks.INDEX, () -> books.write(2, 4));
        CHECKS.throwsA("a change below", Checks.INDEX, () -> books.write(-1, 0));
        CHECKS.throwsA("a form above", Checks.ARGUMENT, () -> books.write(entry, 4));
        CHECKS.throwsA("a form below", Checks.ARGUMENT, () -> books.write(entry, -1));
        CHECKS.same("the page stays", books.pageAt(5), 'l');
        CHECKS.same("a shorter form", books.write(line, 3), 3);
        CHECKS.throwsA("behind the shorter form", Checks.INDEX, () -> books.pageAt(3));
        books.back(0, line);
        CHECKS.same("of what is taken back", Checks.form(books, line, 1), "o neil");
        int[] others = {entry, books.gone(0, entry), 2};
        for (int other : others) {
            for (int form = 0; form < 4; form++) {
                CHECKS.same("nothing of other changes", books.write(other, form), 0);
                CHECKS.throwsA("an empty page", Checks.INDEX, () -> books.pageAt(0));
            }
        }
    }

    private static void isForm(int form, String text, String due) {
        for (int kind : new int[] {KindredBooks.NAME, KindredBooks.WAY, KindredBooks.NOTE}) {
            KindredBooks books = new KindredBooks();
            int line = Checks.line(books, 0, books.entry(0), kind, text);
            CHECKS.same("form " + form + " of \"" + text + "\"", Checks.form(books, line, form), due);
            CHECKS.same("form 0 of \"" + text + "\"", Checks.form(books, line, 0), text);
        }
    }

    /** The longest CALL form has 44 bytes. */
    private static void longestCall() {
        KindredBooks books = new KindredBooks();
        books.setCountry(999);
        String forty = "1234567890123456789012345678901234567890";
        int line = Checks.line(books, 0, books.entry(0), KindredBooks.WAY, forty);
        CHECKS.same("the longest CALL form", Checks.form(books, line, 2), "+999" + forty);
        CHECKS.same("its last byte", books.pageAt(43), '0');
        CHECKS.throwsA("behind it", Checks.INDEX, () -> books.pageAt(44));
    }

    private static void plain() {
        isForm(1, "Ann Lee", "ann lee");
        isForm(1, "  ann--LEE..", "ann lee");
        isForm(1, "AZaz09", "azaz09");
        isForm(1, "@[`{/:", "");
        isForm(1, "a@b[c`d{e/f:g", "a b c d e f g");
        isForm(1, "1234567890123456789012345678901234567890", "1234567890123456789012345678901234567890");
        isForm(1, " ", "");
    }

    private static void calls() {
        isForm(2, "030 12", "+493012");
        isForm(2, "12", "+4912");
        isForm(2, "0049 30 12", "+493012");
        isForm(2, "+49 30 12", "+493012");
        isForm(2, "(+49)-30/12.", "+493012");
        isForm(2, "+0049", "+0049");
        isForm(2, "+", "");
        isForm(2, "0", "+49");
        isForm(2, "00", "+");
        isForm(2, "0/0", "+");
        isForm(2, "000", "+0");
        isForm(2, "0 1", "+491");
        isForm(2, "100", "+49100");
        isForm(2, "(0)0 1", "+1");
        isForm(2, "++1", "1");
        isForm(2, "1+1", "1 1");
        isForm(2, "1+", "1");
        isForm(2, "- /().", "");
        isForm(2, "030 12a", "030 12a");
        isForm(2, "030_12", "030 12");
        isForm(2, "030,12", "030 12");
        isForm(2, "030*12", "030 12");
        isForm(2, "Bob at X", "bob at x");
        isForm(2, "1234567890123456789012345678901234567890", "+491234567890123456789012345678901234567890");
    }

    private static void sounds() {
        isForm(3, "Ann Lee", "a54");
        isForm(3, "Robert", "r163");
        isForm(3, "Rupert", "r163");
        isForm(3, "b f p v", "b");
        isForm(3, "abfpv", "a1");
        isForm(3, "acgjkqsxz", "a2");
        isForm(3, "adt", "a3");
        isForm(3, "al", "a4");
        isForm(3, "amn", "a5");
        isForm(3, "ar", "a6");
        isForm(3, "aehiouwy", "a");
        isForm(3, "bab", "b1");
        isForm(3, "bhb", "b1");
        isForm(3, "b1 b", "b");
        isForm(3, "Pfister", "p236");
        isForm(3, "abcdlm", "a1234");
        isForm(3, "abcdlmr", "a1234");
        isForm(3, "mnl", "m4");
        isForm(3, "1234", "");
        isForm(3, "12 x 3", "x");
        isForm(3, "--", "");
    }
}
