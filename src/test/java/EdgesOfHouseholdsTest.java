import java.time.LocalDate;
import java.time.temporal.ChronoUnit;

/** The edges of promises 37 to 40: one test for each sentence. */
public final class EdgesOfHouseholdsTest {
    private static final Checks CHECKS = new Checks("EdgesOfHouseholdsTest");

    public static void main(String[] args) {
        membersOfNothing();
        membersAreGroups();
        membersOfTheHousesGroup();
        membersButItself();
        membersOfMembersThatStand();
        membersFromTheLeastNumber();
        membersOfAHouseOfAll();
        yearIsOneTo9998();
        dateMustBeOne();
        daysAreZeroTo365();
        dateItselfComes();
        withinTheDays();
        eachOnce();
        leapDayInOtherYears();
        leapDayInEachYear();
        dayThatIsShown();
        ordersByDaysAndNumbers();
        yearlyOfNothing();
        returnsStay();
        tellsOfReturns();
        yearsThatAreFar();
        eachDayOfAYear();
        returnsOfTheLastGroups();
        CHECKS.end();
    }

    private static KindredBooks ofEntries(int entries) {
        KindredBooks books = new KindredBooks();
        for (int i = 0; i < entries; i++) {
            books.entry(0);
        }
        return books;
    }

    private static void hasMembers(KindredBooks books, int house, int... due) {
        CHECKS.same("members(0, " + house + ")", books.members(0, house), due.length);
        for (int i = 0; i < due.length; i++) {
            int index = i;
            CHECKS.same("memberAt(0, " + house + ", " + i + ")", Checks.outcome(() -> books.memberAt(0, house, index)), String.valueOf(due[i]));
        }
        CHECKS.throwsA("memberAt(0, " + house + ", " + due.length + ")", Checks.INDEX, () -> books.memberAt(0, house, due.length));
        CHECKS.throwsA("memberAt(0, " + house + ", -1)", Checks.INDEX, () -> books.memberAt(0, house, -1));
    }

    private static void membersOfNothing() {
        KindredBooks books = ofEntries(2);
        hasMembers(books, 0);
        books.member(0, 0, 1);
        hasMembers(books, 1);
        hasMembers(books, 0, 1);
        CHECKS.throwsA("members of no entry", Checks.ELEMENT, () -> books.members(0, 2));
        CHECKS.throwsA("memberAt of no entry", Checks.ELEMENT, () -> books.memberAt(0, 2, 0));
        CHECKS.throwsA("members in no book", Checks.INDEX, () -> books.members(3, 2));
        CHECKS.throwsA("members in another book", Checks.ELEMENT, () -> books.members(1, 0));
    }

    /** "Counts the groups that belong to a household: those of the entries that are told by a MEMBER": each once. */
    private static void membersAreGroups() {
        KindredBooks books = ofEntries(5);
        books.member(0, 0, 3);
        books.member(0, 0, 4);
        books.member(0, 0, 3);
        hasMembers(books, 0, 3, 4);
        books.join(0, 3, 4);
        hasMembers(books, 0, 3);
        books.join(0, 4, 2);
        hasMembers(books, 0, 2);
        books.gone(0, 2);
        hasMembers(books, 0, 3);
    }

    /** "with a household in the group of the entry that is asked about". */
    private static void membersOfTheHousesGroup() {
        KindredBooks books = ofEntries(5);
        books.member(0, 0, 3);
        books.member(0, 1, 4);
        hasMembers(books, 0, 3);
        hasMembers(books, 1, 4);
        hasMembers(books, 2);
        int join = books.join(0, 0, 1);
        books.join(0, 2, 1);
        hasMembers(books, 0, 3, 4);
        hasMembers(books, 2, 3, 4);
        books.back(0, join);
        hasMembers(books, 2, 4);
        hasMembers(books, 0, 3);
        // a household of a household is not gone into
        books.member(0, 3, 2);
        hasMembers(books, 0, 3);
        hasMembers(books, 3, 1);
    }

    /** "but this group itself". */
    private static void membersButItself() {
        KindredBooks books = ofEntries(3);
        books.member(0, 0, 1);
        books.member(0, 0, 2);
        books.member(0, 1, 0);
        hasMembers(books, 0, 1, 2);
        hasMembers(books, 1, 0);
        int join = books.join(0, 0, 1);
        hasMembers(books, 0, 2);
        hasMembers(books, 1, 2);
        books.join(0, 2, 0);
        hasMembers(books, 0);
        books.back(0, join);
        hasMembers(books, 2, 1);
        hasMembers(books, 1, 0);
    }

    /** "a MEMBER that stands": not one that is taken back, not known, or with an entry that is gone. */
    private static void membersOfMembersThatStand() {
        KindredBooks books = ofEntries(4);
        int member = books.member(0, 0, 1);
        books.hear(1, 0);
        books.member(1, 0, 2);
        hasMembers(books, 0, 1);
        books.hear(0, 1);
        hasMembers(books, 0, 1, 2);
        int back = books.back(0, member);
        hasMembers(books, 0, 2);
        books.back(0, back);
        int gone = books.gone(0, 2);
        hasMembers(books, 0, 1);
        books.back(0, gone);
        // the household is gone, but another entry of its group is not
        books.join(0, 0, 3);
        books.gone(0, 0);
        hasMembers(books, 3);
    }

    /** "index: 0 for the one with the least number, and so on": not in the order of the MEMBERs. */
    private static void membersFromTheLeastNumber() {
        KindredBooks books = ofEntries(6);
        books.member(0, 2, 5);
        books.member(0, 2, 0);
        books.member(0, 2, 4);
        books.member(0, 2, 1);
        hasMembers(books, 2, 0, 1, 4, 5);
    }

    /** A household with as many members as 250 changes can make. */
    private static void membersOfAHouseOfAll() {
        KindredBooks books = ofEntries(125);
        for (int i = 1; i < 125; i++) {
            books.member(0, 0, 125 - i);
        }
        CHECKS.same("members", books.members(0, 0), 124);
        CHECKS.same("the first one", books.memberAt(0, 0, 0), 1);
        CHECKS.same("the last one", books.memberAt(0, 0, 123), 124);
        CHECKS.throwsA("behind it", Checks.INDEX, () -> books.memberAt(0, 0, 124));
    }

    private static KindredBooks born(String... days) {
        KindredBooks books = new KindredBooks();
        for (String day : days) {
            Checks.line(books, 0, books.entry(0), KindredBooks.DAY, day);
        }
        return books;
    }

    /** Calls yearly() and compares groups, days and years, one behind the other. */
    private static void comes(KindredBooks books, int year, int month, int day, int days, int... due) {
        String call = "yearly(0, " + year + ", " + month + ", " + day + ", " + days + ")";
        CHECKS.same(call, books.yearly(0, year, month, day, days), due.length / 3);
        for (int i = 0; i < due.length; i++) {
            int place = i;
            CHECKS.same(call + ", place " + i / 3 + ", what " + i % 3, Checks.outcome(() -> books.yearlyAt(place / 3, place % 3)), String.valueOf(due[i]));
        }
        CHECKS.throwsA(call + ", behind it", Checks.INDEX, () -> books.yearlyAt(due.length / 3, 0));
    }

    /** "year: 1 to 9998". */
    private static void yearIsOneTo9998() {
        KindredBooks books = born("2000-01-01", "2000-12-31");
        comes(books, 1, 1, 1, 0, 0, 0, 1 - 2000);
        CHECKS.throwsA("0", Checks.ARGUMENT, () -> books.yearly(0, 0, 1, 1, 0));
        CHECKS.throwsA("-1", Checks.ARGUMENT, () -> books.yearly(0, -1, 1, 1, 0));
        comes(books, 9998, 12, 31, 0, 2, 0, 7998);
        comes(books, 9998, 12, 31, 365, 2, 0, 7998, 0, 1, 7999);
        CHECKS.throwsA("9999", Checks.ARGUMENT, () -> books.yearly(0, 9999, 1, 1, 0));
        CHECKS.throwsA("10000", Checks.ARGUMENT, () -> books.yearly(0, 10000, 1, 1, 0));
    }

    /** "or there is no such date": the first and last day of each month, and those ahead and behind. */
    private static void dateMustBeOne() {
        KindredBooks books = new KindredBooks();
        int[] lengths = {31, 28, 31, 30, 31, 30, 31, 31, 30, 31, 30, 31};
        for (int i = 1; i <= 12; i++) {
            int month = i;
            int last = lengths[month - 1];
            CHECKS.same("the first day of " + month, books.yearly(0, 2001, month, 1, 0), 0);
            CHECKS.same("the last day of " + month, books.yearly(0, 2001, month, last, 0), 0);
            CHECKS.throwsA("day 0 of " + month, Checks.ARGUMENT, () -> books.yearly(0, 2001, month, 0, 0));
            CHECKS.throwsA("the day behind the last one of " + month, Checks.ARGUMENT, () -> books.yearly(0, 2001, month, last + 1, 0));
        }
        CHECKS.throwsA("month 0", Checks.ARGUMENT, () -> books.yearly(0, 2001, 0, 1, 0));
        CHECKS.throwsA("month 13", Checks.ARGUMENT, () -> books.yearly(0, 2001, 13, 1, 0));
        for (int year : new int[] {4, 400, 2000, 2004, 9996}) {
            CHECKS.same("the leap day of " + year, books.yearly(0, year, 2, 29, 0), 0);
            CHECKS.throwsA("the day behind that of " + year, Checks.ARGUMENT, () -> books.yearly(0, year, 2, 30, 0));
        }
        for (int year : new int[] {1, 100, 1900, 2001, 2100, 9998}) {
            CHECKS.throwsA("no leap day in " + year, Checks.ARGUMENT, () -> books.yearly(0, year, 2, 29, 0));
        }
    }

    /** "days: 0 to 365". */
    private static void daysAreZeroTo365() {
        KindredBooks books = born("2000-01-01");
        comes(books, 2001, 1, 1, 0, 0, 0, 1);
        comes(books, 2001, 1, 1, 365, 0, 0, 1);
        CHECKS.throwsA("-1", Checks.ARGUMENT, () -> books.yearly(0, 2001, 1, 1, -1));
        CHECKS.throwsA("366", Checks.ARGUMENT, () -> books.yearly(0, 2001, 1, 1, 366));
        CHECKS.same("what was found stays", books.yearlyAt(0, 2), 1);
    }

    /** "comes again, by month and day, on a date": with 0 days, and not the day ahead or behind. */
    private static void dateItselfComes() {
        KindredBooks books = born("1990-03-15", "1990-03-16", "1990-04-15", "2010-03-15");
        comes(books, 2000, 3, 15, 0, 0, 0, 10, 6, 0, -10);
        comes(books, 2000, 3, 14, 0);
        comes(books, 2000, 3, 16, 0, 2, 0, 10);
        comes(books, 1990, 3, 15, 0, 0, 0, 0, 6, 0, -20);
    }

    /** "or within some days behind it": the last of these days comes, the one behind it does not. */
    private static void withinTheDays() {
        KindredBooks books = born("1990-03-15");
        comes(books, 2000, 3, 14, 1, 0, 1, 10);
        comes(books, 2000, 3, 13, 1);
        comes(books, 2000, 3, 13, 2, 0, 2, 10);
        comes(books, 2000, 3, 16, 363);
        comes(books, 2000, 3, 16, 364, 0, 364, 11);
        // with a leap day between it is 365 days away
        comes(books, 1999, 3, 16, 364);
        comes(books, 1999, 3, 16, 365, 0, 365, 10);
        comes(books, 1999, 12, 31, 75, 0, 75, 10);
        comes(books, 1999, 12, 31, 74);
        comes(books, 1998, 12, 31, 74, 0, 74, 9);
    }

    /** "each once": on the date, and 365 days behind it again, it is told for the date. */
    private static void eachOnce() {
        KindredBooks books = born("1990-03-15");
        comes(books, 2000, 3, 15, 365, 0, 0, 10);
        comes(books, 2001, 3, 15, 365, 0, 0, 11);
        comes(books, 2001, 3, 15, 364, 0, 0, 11);
    }

    /** "In a year without the 29th of February this day comes on the 1st of March." */
    private static void leapDayInOtherYears() {
        KindredBooks books = born("2000-02-29", "2000-03-01", "2000-02-28");
        comes(books, 2004, 2, 29, 0, 0, 0, 4);
        comes(books, 2004, 3, 1, 0, 2, 0, 4);
        comes(books, 2003, 3, 1, 0, 0, 0, 3, 2, 0, 3);
        comes(books, 2003, 2, 28, 0, 4, 0, 3);
        comes(books, 2003, 2, 28, 1, 4, 0, 3, 0, 1, 3, 2, 1, 3);
        comes(books, 2004, 2, 28, 1, 4, 0, 4, 0, 1, 4);
        comes(books, 1900, 3, 1, 0, 0, 0, -100, 2, 0, -100);
        // from the 1st of March of a leap year it comes in the next year, on the 1st of March, 365 days behind
        comes(books, 2004, 3, 1, 364, 2, 0, 4, 4, 364, 5);
        comes(books, 2004, 3, 1, 365, 2, 0, 4, 4, 364, 5, 0, 365, 5);
        // from the 2nd of March it comes in the leap year that is next, on its own day
        comes(books, 2003, 3, 2, 363, 4, 363, 4);
        comes(books, 2003, 3, 2, 364, 4, 363, 4, 0, 364, 4);
        comes(books, 9998, 3, 2, 364, 4, 363, 7999, 0, 364, 7999, 2, 364, 7999);
    }

    /** The leap day in years of each kind: it comes on the date that the calendar has. */
    private static void leapDayInEachYear() {
        KindredBooks books = born("2000-02-29");
        for (int year : new int[] {1, 3, 4, 5, 99, 100, 101, 399, 400, 401, 1899, 1900, 1999, 2000, 2001, 2100, 2400, 9995, 9996, 9998}) {
            boolean isLeap = LocalDate.of(year, 1, 1).isLeapYear();
            LocalDate start = LocalDate.of(year, 1, 1);
            LocalDate there = isLeap ? LocalDate.of(year, 2, 29) : LocalDate.of(year, 3, 1);
            int left = (int) ChronoUnit.DAYS.between(start, there);
            comes(books, year, 1, 1, 365, 0, left, year - 2000);
            comes(books, year, 3, 1, 0, isLeap ? new int[0] : new int[] {0, 0, year - 2000});
        }
    }

    /** "whose DAY that is shown": the latest one that stands, of the whole group. */
    private static void dayThatIsShown() {
        KindredBooks books = born("1990-03-15", "1990-05-05");
        comes(books, 2000, 3, 15, 0, 0, 0, 10);
        int later = Checks.line(books, 0, 0, KindredBooks.DAY, "1991-04-01");
        comes(books, 2000, 3, 15, 0);
        comes(books, 2000, 4, 1, 0, 0, 0, 9);
        int join = books.join(0, 0, 2);
        comes(books, 2000, 5, 5, 0);
        comes(books, 2000, 4, 1, 0, 0, 0, 9);
        books.back(0, later);
        comes(books, 2000, 3, 15, 0);
        comes(books, 2000, 5, 5, 0, 0, 0, 10);
        books.back(0, join);
        comes(books, 2000, 5, 5, 0, 2, 0, 10);
        books.gone(0, 2);
        comes(books, 2000, 5, 5, 0);
    }

    /** "told by rising days, of like ones by their numbers": across the turn of the year. */
    private static void ordersByDaysAndNumbers() {
        KindredBooks books = born("1990-01-01", "1980-12-31", "1999-01-01", "1970-12-30", "2000-12-31");
        comes(books, 2000, 12, 30, 2, 6, 0, 30, 2, 1, 20, 8, 1, 0, 0, 2, 11, 4, 2, 2);
        comes(books, 2000, 12, 31, 365, 2, 0, 20, 8, 0, 0, 0, 1, 11, 4, 1, 2, 6, 364, 31);
    }

    private static void yearlyOfNothing() {
        KindredBooks books = new KindredBooks();
        comes(books, 2000, 1, 1, 365);
        books.entry(0);
        comes(books, 2000, 1, 1, 365);
        Checks.line(books, 0, 0, KindredBooks.NOTE, "2000-01-01");
        Checks.line(books, 0, 0, KindredBooks.NAME, "2000-01-01");
        comes(books, 2000, 1, 1, 365);
        CHECKS.same("in another book", books.yearly(2, 2000, 1, 1, 365), 0);
    }

    /** "They stay as they are until the next call of this method that throws no exception." */
    private static void returnsStay() {
        KindredBooks books = born("1990-03-15");
        comes(books, 2000, 3, 14, 1, 0, 1, 10);
        books.gone(0, 0);
        Checks.type(books, "a");
        books.search(0, 0);
        books.suggest(0, 401);
        CHECKS.throwsA("days that are none", Checks.ARGUMENT, () -> books.yearly(0, 2000, 3, 14, 366));
        CHECKS.throwsA("a date that is none", Checks.ARGUMENT, () -> books.yearly(0, 2001, 2, 29, 0));
        CHECKS.throwsA("a book that is none", Checks.INDEX, () -> books.yearly(3, 2000, 3, 14, 1));
        CHECKS.same("the group", books.yearlyAt(0, 0), 0);
        CHECKS.same("the days", books.yearlyAt(0, 1), 1);
        CHECKS.same("the years", books.yearlyAt(0, 2), 10);
        comes(books, 2000, 3, 14, 1);
    }

    /** "index: its place among them", "what: 0 for its number, 1 .., 2 ..". */
    private static void tellsOfReturns() {
        KindredBooks books = born("1990-03-15", "1991-03-16");
        CHECKS.throwsA("without a call of yearly()", Checks.INDEX, () -> books.yearlyAt(0, 0));
        comes(books, 2000, 3, 15, 1, 0, 0, 10, 2, 1, 9);
        CHECKS.throwsA("index 2", Checks.INDEX, () -> books.yearlyAt(2, 0));
        CHECKS.throwsA("index -1", Checks.INDEX, () -> books.yearlyAt(-1, 0));
        CHECKS.throwsA("what 3", Checks.ARGUMENT, () -> books.yearlyAt(1, 3));
        CHECKS.throwsA("what -1", Checks.ARGUMENT, () -> books.yearlyAt(1, -1));
        CHECKS.throwsA("both", Checks.INDEX, () -> books.yearlyAt(2, 3));
    }

    /** "2 for the year in which it comes then, less the year of its DAY (which can be below 0 ..)": the farthest ones. */
    private static void yearsThatAreFar() {
        KindredBooks books = born("0001-06-01", "9999-06-01", "9999-12-31");
        comes(books, 1, 6, 1, 0, 0, 0, 0, 2, 0, -9998);
        comes(books, 9998, 6, 1, 0, 0, 0, 9997, 2, 0, -1);
        comes(books, 9998, 6, 2, 364, 4, 212, -1, 0, 364, 9998, 2, 364, 0);
        comes(books, 1, 12, 31, 365, 4, 0, -9998, 0, 152, 1, 2, 152, -9997);
    }

    /** Each day of a year with and one without a leap day, from another day of that year: as the calendar counts. */
    private static void eachDayOfAYear() {
        for (int year = 2003; year <= 2004; year++) {
            LocalDate day = LocalDate.of(year, 1, 1);
            while (day.getYear() == year) {
                KindredBooks books = born(day.toString());
                LocalDate from = LocalDate.of(year, 7, 4);
                LocalDate next = LocalDate.of(year, day.getMonthValue(), day.getDayOfMonth());
                if (next.isBefore(from)) {
                    boolean isLeapDay = day.getMonthValue() == 2 && day.getDayOfMonth() == 29;
                    next = isLeapDay ? LocalDate.of(year + 1, 3, 1) : LocalDate.of(year + 1, day.getMonthValue(), day.getDayOfMonth());
                }
                int left = (int) ChronoUnit.DAYS.between(from, next);
                comes(books, year, 7, 4, left, 0, left, next.getYear() - year);
                if (left > 0) {
                    comes(books, year, 7, 4, left - 1);
                }
                day = day.plusDays(1);
            }
        }
    }

    /** The groups of the last entries that can have a line, with even and odd numbers. */
    private static void returnsOfTheLastGroups() {
        KindredBooks books = new KindredBooks();
        Checks.fill(books, 248);
        Checks.line(books, 2, 247, KindredBooks.DAY, "1999-12-31");
        Checks.line(books, 2, 246, KindredBooks.DAY, "2000-01-01");
        CHECKS.same("in a year", books.yearly(2, 2001, 1, 1, 364), 2);
        int[] due = {246, 0, 1, 247, 364, 2};
        for (int i = 0; i < due.length; i++) {
            CHECKS.same("place " + i / 3 + ", what " + i % 3, books.yearlyAt(i / 3, i % 3), due[i]);
        }
        CHECKS.same("in a leap year, by one day less", books.yearly(2, 2004, 1, 1, 364), 1);
        KindredBooks house = new KindredBooks();
        Checks.fill(house, 249);
        house.member(2, 0, 248);
        CHECKS.same("the last member", house.memberAt(2, 0, 0), 248);
    }
}
