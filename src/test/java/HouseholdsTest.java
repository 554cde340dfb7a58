/** Promises 37 to 40: households and yearly days. */
public final class HouseholdsTest {
    private static final Checks CHECKS = new Checks("HouseholdsTest");

    public static void main(String[] args) {
        households();
        returning();
        leapDays();
        spans();
        returnsStay();
        wrongDates();
        CHECKS.end();
    }

    private static void hasMembers(KindredBooks books, int house, int... due) {
        CHECKS.same("members of " + house, books.members(0, house), due.length);
        for (int i = 0; i < due.length; i++) {
            CHECKS.same("member " + i + " of " + house, books.memberAt(0, house, i), due[i]);
        }
        CHECKS.throwsA("behind the members of " + house, Checks.INDEX, () -> books.memberAt(0, house, due.length));
    }

    /** Promises 37 and 38. */
    private static void households() {
        KindredBooks books = new KindredBooks();
        for (int i = 0; i < 7; i++) {
            books.entry(0);
        }
        hasMembers(books, 3);
        books.member(0, 3, 5);
        int zero = books.member(0, 3, 0);
        books.member(0, 3, 5);
        books.member(0, 4, 1);
        hasMembers(books, 3, 0, 5);
        hasMembers(books, 4, 1);
        hasMembers(books, 5);
        books.join(0, 3, 4);
        hasMembers(books, 4, 0, 1, 5);
        books.join(0, 1, 5);
        hasMembers(books, 3, 0, 1);
        books.join(0, 4, 0);
        hasMembers(books, 0, 1);
        books.back(0, zero);
        books.gone(0, 5);
        hasMembers(books, 3, 1);
        books.gone(0, 4);
        hasMembers(books, 3);
        CHECKS.throwsA("members, the book first", Checks.INDEX, () -> books.members(3, 99));
        CHECKS.throwsA("members of what is gone", Checks.ELEMENT, () -> books.members(0, 4));
        CHECKS.throwsA("memberAt, the book first", Checks.INDEX, () -> books.memberAt(-1, 99, 0));
        CHECKS.throwsA("memberAt, then the entry", Checks.ELEMENT, () -> books.memberAt(0, 4, 99));
        CHECKS.throwsA("memberAt(-1)", Checks.INDEX, () -> books.memberAt(0, 3, -1));
    }

    private static int born(KindredBooks books, String day) {
        int entry = books.entry(0);
        Checks.line(books, 0, entry, KindredBooks.DAY, day);
        return entry;
    }

    /** Calls yearly() and compares groups, days and years. */
    private static void comes(KindredBooks books, String date, int days, int... due) {
        String[] parts = date.split("-");
        int year = Integer.parseInt(parts[0]);
        int month = Integer.parseInt(parts[1]);
        int day = Integer.parseInt(parts[2]);
        String call = "yearly from " + date + " for " + days;
        CHECKS.same(call, books.yearly(0, year, month, day, days), due.length / 3);
        for (int i = 0; i < due.length; i++) {
            CHECKS.same(call + ", " + i / 3 + ", " + i % 3, books.yearlyAt(i / 3, i % 3), due[i]);
        }
        CHECKS.throwsA(call + ", behind it", Checks.INDEX, () -> books.yearlyAt(due.length / 3, 0));
    }

    /** Promises 39 and 40. */
    private static void returning() {
        KindredBooks books = new KindredBooks();
        int may = born(books, "1980-05-20");
        int june = born(books, "2050-06-01");
        int again = born(books, "1999-05-20");
        books.entry(0);
        comes(books, "2020-05-20", 0, may, 0, 40, again, 0, 21);
        comes(books, "2020-05-19", 0);
        comes(books, "2020-05-19", 1, may, 1, 41 - 1, again, 1, 21);
        comes(books, "2020-05-20", 12, may, 0, 40, again, 0, 21, june, 12, -30);
        comes(books, "2020-05-20", 11, may, 0, 40, again, 0, 21);
        comes(books, "2020-05-21", 365, june, 11, -30, may, 364, 41, again, 364, 22);
        Checks.line(books, 0, again, KindredBooks.DAY, "1999-05-21");
        comes(books, "2020-05-20", 1, may, 0, 40, again, 1, 21);
        books.join(0, again, may);
        comes(books, "2020-05-20", 365, may, 1, 21, june, 12, -30);
        books.gone(0, june);
        comes(books, "2020-05-20", 365, may, 1, 21);
        comes(books, "1900-05-21", 364, may, 0, 1900 - 1999);
        comes(books, "1900-05-22", 364, may, 364, 1901 - 1999);
        comes(books, "1899-05-22", 363);
        comes(books, "1900-02-20", 90, may, 90, 1900 - 1999);
        comes(books, "2000-02-20", 90);
        comes(books, "2000-02-20", 91, may, 91, 1);
        comes(books, "1999-05-22", 365, may, 365, 1);
        comes(books, "2000-05-22", 364, may, 364, 2);
        comes(books, "9998-05-22", 365, may, 364, 9999 - 1999);
        comes(books, "0001-05-21", 0, may, 0, 1 - 1999);
    }

    private static void leapDays() {
        KindredBooks books = new KindredBooks();
        int leap = born(books, "2000-02-29");
        int march = born(books, "2001-03-01");
        comes(books, "2003-02-28", 1, leap, 1, 3, march, 1, 2);
        comes(books, "2004-02-28", 1, leap, 1, 4);
        comes(books, "2004-02-28", 2, leap, 1, 4, march, 2, 3);
        comes(books, "2003-03-01", 0, leap, 0, 3, march, 0, 2);
        comes(books, "2004-02-29", 0, leap, 0, 4);
        comes(books, "2004-03-01", 364, march, 0, 3);
        comes(books, "2004-03-01", 365, march, 0, 3, leap, 365, 5);
        comes(books, "2003-03-02", 364, leap, 364, 4);
        comes(books, "2003-03-02", 365, leap, 364, 4, march, 365, 3);
        comes(books, "1900-02-28", 1, leap, 1, -100, march, 1, -101);
        comes(books, "2000-02-28", 1, leap, 1, 0);
    }

    private static void spans() {
        KindredBooks books = new KindredBooks();
        int first = born(books, "1970-01-01");
        int last = born(books, "1970-12-31");
        comes(books, "2019-12-31", 1, last, 0, 49, first, 1, 50);
        comes(books, "2020-01-01", 365, first, 0, 50, last, 365, 50);
        comes(books, "2020-01-01", 364, first, 0, 50);
        comes(books, "2021-01-01", 364, first, 0, 51, last, 364, 51);
        comes(books, "2021-01-02", 363, last, 363, 51);
        comes(books, "2021-01-02", 364, last, 363, 51, first, 364, 52);
    }

    private static void returnsStay() {
        KindredBooks books = new KindredBooks();
        int may = born(books, "1980-05-20");
        comes(books, "2020-05-20", 0, may, 0, 40);
        books.gone(0, may);
        CHECKS.throwsA("no such date", Checks.ARGUMENT, () -> books.yearly(0, 2020, 2, 30, 0));
        CHECKS.throwsA("no such book", Checks.INDEX, () -> books.yearly(3, 2020, 2, 20, 0));
        CHECKS.same("it stays", books.yearlyAt(0, 2), 40);
        CHECKS.throwsA("the index first", Checks.INDEX, () -> books.yearlyAt(1, 3));
        CHECKS.throwsA("an index below", Checks.INDEX, () -> books.yearlyAt(-1, 0));
        CHECKS.throwsA("what above", Checks.ARGUMENT, () -> books.yearlyAt(0, 3));
        CHECKS.throwsA("what below", Checks.ARGUMENT, () -> books.yearlyAt(0, -1));
        comes(books, "2020-05-20", 0);
    }

    private static void wrongDates() {
        KindredBooks books = new KindredBooks();
        CHECKS.throwsA("the book first", Checks.INDEX, () -> books.yearly(-1, 0, 0, 0, -1));
        int[][] wrong = {{0, 1, 1, 0}, {9999, 1, 1, 0}, {-1, 1, 1, 0}, {2020, 0, 1, 0}, {2020, 13, 1, 0}, {2020, 1, 0, 0},
            {2020, 1, 32, 0}, {2021, 2, 29, 0}, {2020, 2, 30, 0}, {1900, 2, 29, 0}, {2020, 4, 31, 0}, {2020, 1, 1, -1},
            {2020, 1, 1, 366}, {2020, Integer.MAX_VALUE, 1, 0}, {2020, Integer.MIN_VALUE, 1, 0}, {2020, 1, Integer.MIN_VALUE, 0}};
        for (int[] date : wrong) {
            String call = date[0] + "-" + date[1] + "-" + date[2] + " for " + date[3];
            CHECKS.throwsA(call, Checks.ARGUMENT, () -> books.yearly(0, date[0], date[1], date[2], date[3]));
        }
        CHECKS.same("the first year", books.yearly(0, 1, 1, 1, 365), 0);
        CHECKS.same("the last year", books.yearly(0, 9998, 12, 31, 365), 0);
        CHECKS.same("a leap day", books.yearly(0, 2000, 2, 29, 0), 0);
    }
}
