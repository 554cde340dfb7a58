import java.util.Arrays;
import java.util.NoSuchElementException;

/** A book of kin that three hands keep: see ../shared/DOC.md for what each call promises. */
public final class KindredBooks {
    public static final int NONE = -1;
    public static final int ENTRY = 0, LINE = 1, JOIN = 2, NEVER = 3, MEMBER = 4, GONE = 5, BACK = 6;
    public static final int NAME = 0, WAY = 1, PLACE = 2, DAY = 3, NOTE = 4;
    public static final int BEGINS = 0, PART = 1, NEAR = 2;

    private static final int BOOKS = 3;
    private static final int MOST_CHANGES = 250;
    private static final int MOST_PAIRS = MOST_CHANGES * (MOST_CHANGES - 1) / 2;
    private static final int MOST_BYTES = 400;
    private static final int MOST_OF_LINE = 40;
    private static final int MOST_OF_CALL = 44;
    private static final int MOST_OF_SOUND = 5;
    private static final int MOST_LINES_OF_PAPER = MOST_BYTES / 4 + 1;
    private static final int LAST_YEAR = 9999;
    /** Put on years that may be below 0, so that a row of answers packs them without a sign. */
    private static final int YEAR_SHIFT = 10000;

    private final Text text = new Text(MOST_BYTES);
    private final Text page = new Text(MOST_OF_CALL);
    private final Text sought = new Text(MOST_BYTES);
    private final Ledger ledger = new Ledger();
    private final Book[] books = new Book[BOOKS];
    private final Kin[] kins = new Kin[BOOKS];
    private final Measure measure = new Measure();
    private final Paper paper = new Paper();
    private final Answers suggestions = new Answers();
    private final Answers finds = new Answers();
    private final Answers returns = new Answers();
    private int country = 49;

    public KindredBooks() {
        for (int i = 0; i < BOOKS; i++) {
            books[i] = new Book(i, ledger);
            kins[i] = new Kin(books[i], ledger);
        }
    }

    public int type(long bytes) throws IllegalStateException {
        int more = 0;
        for (int shift = 56; shift >= 0; shift -= 8) {
            if (((bytes >>> shift) & 255) != 0) {
                more++;
            }
        }
        if (text.length + more > MOST_BYTES) {
            throw new IllegalStateException("the text would be too long");
        }
        for (int shift = 56; shift >= 0; shift -= 8) {
            int sign = (int) ((bytes >>> shift) & 255);
            if (sign != 0) {
                text.put(sign);
            }
        }
        return text.length;
    }

    public int clearText() {
        int before = text.length;
        text.empty();
        return before;
    }

    public int setCountry(int number) throws IllegalArgumentException {
        if (number < 1 || number > 999) {
            throw new IllegalArgumentException("the number of a country is 1 to 999");
        }
        int before = country;
        country = number;
        for (int i = 0; i < ledger.size; i++) {
            ledger.at(i).line.makeCall(number);
        }
        for (int i = 0; i < BOOKS; i++) {
            books[i].touch();
        }
        return before;
    }

    public int entry(int book) throws IndexOutOfBoundsException, IllegalStateException {
        Book in = bookOf(book);
        checkRoom();
        return in.make(ENTRY, NONE, NONE, ledger.blank);
    }

    public int line(int book, int entry, int kind) throws IndexOutOfBoundsException, IllegalArgumentException, NoSuchElementException, IllegalStateException {
        Book in = bookOf(book);
        checkKind(kind);
        checkLive(in, entry);
        if (!Forms.isForLine(kind, text, 0, text.length)) {
            throw new IllegalStateException("the text is none for such a line");
        }
        checkRoom();
        Line line = new Line();
        line.read(kind, text, 0, text.length, country);
        text.empty();
        return in.make(LINE, entry, kind, line);
    }

    public int join(int book, int one, int other) throws IndexOutOfBoundsException, IllegalArgumentException, NoSuchElementException, IllegalStateException {
        return makeOfTwo(book, JOIN, one, other);
    }

    public int never(int book, int one, int other) throws IndexOutOfBoundsException, IllegalArgumentException, NoSuchElementException, IllegalStateException {
        return makeOfTwo(book, NEVER, one, other);
    }

    public int member(int book, int house, int entry) throws IndexOutOfBoundsException, IllegalArgumentException, NoSuchElementException, IllegalStateException {
        return makeOfTwo(book, MEMBER, house, entry);
    }

    public int gone(int book, int entry) throws IndexOutOfBoundsException, NoSuchElementException, IllegalStateException {
        Book in = bookOf(book);
        checkLive(in, entry);
        checkRoom();
        return in.make(GONE, entry, NONE, ledger.blank);
    }

    public int back(int book, int change) throws IndexOutOfBoundsException, NoSuchElementException, IllegalStateException {
        Book in = bookOf(book);
        checkChange(change);
        if (!in.isCounting(change)) {
            throw new NoSuchElementException("the change does not count in this book");
        }
        checkRoom();
        return in.make(BACK, change, NONE, ledger.blank);
    }

    public int undo(int book) throws IndexOutOfBoundsException, IllegalStateException {
        Book in = bookOf(book);
        int last = in.latestOwn();
        if (last == NONE) {
            return NONE;
        }
        checkRoom();
        in.make(BACK, last, NONE, ledger.blank);
        return last;
    }

    public int hear(int book, int from) throws IndexOutOfBoundsException {
        Book in = bookOf(book);
        return in.learnFrom(bookOf(from));
    }

    public int changes() {
        return ledger.size;
    }

    public int change(int change, int what) throws IndexOutOfBoundsException, IllegalArgumentException {
        checkChange(change);
        Change told = ledger.at(change);
        switch (what) {
            case 0:
                return told.kind;
            case 1:
                return told.hand;
            case 2:
                return told.count;
            case 3:
                return told.first;
            case 4:
                return told.second;
            case 5:
                return told.line.text.length;
            default:
                throw new IllegalArgumentException("0 to 5 can be told of a change");
        }
    }

    public int known(int book) throws IndexOutOfBoundsException {
        return bookOf(book).size;
    }

    public boolean counts(int book, int change) throws IndexOutOfBoundsException {
        Book in = bookOf(book);
        checkChange(change);
        return in.isCounting(change);
    }

    public boolean stands(int book, int change) throws IndexOutOfBoundsException {
        Book in = bookOf(book);
        checkChange(change);
        return in.isStanding(change);
    }

    public boolean holds(int book, int change) throws IndexOutOfBoundsException {
        Kin kin = kinOf(book);
        checkChange(change);
        return kin.isHolding(change);
    }

    public int groups(int book) throws IndexOutOfBoundsException {
        return kinOf(book).size;
    }

    public int groupAt(int book, int index) throws IndexOutOfBoundsException {
        Kin kin = kinOf(book);
        if (index < 0 || index >= kin.size) {
            throw new IndexOutOfBoundsException("there is no such group");
        }
        return kin.numberAt(index);
    }

    public int groupOf(int book, int entry) throws IndexOutOfBoundsException, NoSuchElementException {
        Kin kin = kinOf(book);
        checkLive(bookOf(book), entry);
        return kin.numberOf(entry);
    }

    public int sizeOf(int book, int entry) throws IndexOutOfBoundsException, NoSuchElementException {
        Kin kin = kinOf(book);
        checkLive(bookOf(book), entry);
        return kin.countEntries(kin.numberOf(entry));
    }

    public int path(int book, int one, int other, int index) throws IndexOutOfBoundsException, NoSuchElementException {
        Kin kin = kinOf(book);
        checkLive(bookOf(book), one);
        checkLive(bookOf(book), other);
        int length = kin.measurePath(one, other);
        if (index == NONE) {
            return length;
        }
        if (index < 0 || index >= length) {
            throw new IndexOutOfBoundsException("the row has no such entry");
        }
        return kin.walk(one, index);
    }

    public int forbids(int book, int one, int other) throws IndexOutOfBoundsException, NoSuchElementException {
        Kin kin = kinOf(book);
        checkLive(bookOf(book), one);
        checkLive(bookOf(book), other);
        return kin.findNever(kin.numberOf(one), kin.numberOf(other));
    }

    public int shown(int book, int entry, int kind) throws IndexOutOfBoundsException, IllegalArgumentException, NoSuchElementException {
        Kin kin = kinOf(book);
        checkKind(kind);
        checkLive(bookOf(book), entry);
        return kin.countShown(kin.numberOf(entry), kind);
    }

    public int shownAt(int book, int entry, int kind, int index) throws IndexOutOfBoundsException, IllegalArgumentException, NoSuchElementException {
        Kin kin = kinOf(book);
        checkKind(kind);
        checkLive(bookOf(book), entry);
        int line = kin.findShown(kin.numberOf(entry), kind, index);
        if (line == NONE) {
            throw new IndexOutOfBoundsException("there is no such line");
        }
        return line;
    }

    public int values(int book, int entry, int kind) throws IndexOutOfBoundsException, IllegalArgumentException, NoSuchElementException {
        Kin kin = kinOf(book);
        checkKind(kind);
        checkLive(bookOf(book), entry);
        return kin.countValues(kin.numberOf(entry), kind);
    }

    public int write(int change, int form) throws IndexOutOfBoundsException, IllegalArgumentException {
        checkChange(change);
        if (form < 0 || form > 3) {
            throw new IllegalArgumentException("the forms are 0 to 3");
        }
        Text written = ledger.at(change).line.formOf(form);
        page.copy(written, 0, written.length);
        return page.length;
    }

    public int pageAt(int index) throws IndexOutOfBoundsException {
        if (index < 0 || index >= page.length) {
            throw new IndexOutOfBoundsException("the page has no such byte");
        }
        return page.at(index);
    }

    public int likeness(int book, int one, int other) throws IndexOutOfBoundsException, NoSuchElementException {
        Kin kin = kinOf(book);
        checkLive(bookOf(book), one);
        checkLive(bookOf(book), other);
        int left = kin.numberOf(one);
        int right = kin.numberOf(other);
        return left == right ? 1000 : measure.measureGroups(kin, left, right);
    }

    public int suggest(int book, int bar) throws IndexOutOfBoundsException, IllegalArgumentException {
        Kin kin = kinOf(book);
        if (bar < 401 || bar > 1000) {
            throw new IllegalArgumentException("the bar is 401 to 1000");
        }
        suggestions.empty();
        for (int i = 0; i < kin.size; i++) {
            for (int j = i + 1; j < kin.size; j++) {
                addSuggestion(kin, kin.numberAt(i), kin.numberAt(j), bar);
            }
        }
        suggestions.sort();
        return suggestions.size;
    }

    public int suggested(int index, int what) throws IndexOutOfBoundsException, IllegalArgumentException {
        long row = rowOf(suggestions, index);
        switch (what) {
            case 0:
                return (int) ((row >> 8) & 255);
            case 1:
                return (int) (row & 255);
            case 2:
                return 1000 - (int) (row >> 16);
            default:
                throw new IllegalArgumentException("0 to 2 can be told of a suggestion");
        }
    }

    public int looked(int book) throws IndexOutOfBoundsException {
        Kin kin = kinOf(book);
        int pairs = 0;
        for (int i = 0; i < kin.size; i++) {
            for (int j = i + 1; j < kin.size; j++) {
                measure.findCommon(kin, kin.numberAt(i), kin.numberAt(j));
                if (measure.isCommon()) {
                    pairs++;
                }
            }
        }
        return pairs;
    }

    public int search(int book, int how) throws IndexOutOfBoundsException, IllegalArgumentException, IllegalStateException {
        Kin kin = kinOf(book);
        if (how < BEGINS || how > NEAR) {
            throw new IllegalArgumentException("there is no such way to search");
        }
        Forms.makePlain(text, sought);
        if (sought.length == 0) {
            throw new IllegalStateException("there is nothing to search for");
        }
        finds.empty();
        for (int i = 0; i < kin.size; i++) {
            int group = kin.numberAt(i);
            int rank = measure.rankGroup(kin, group, how, sought);
            if (rank != NONE) {
                finds.add(((long) rank << 8) | group);
            }
        }
        finds.sort();
        return finds.size;
    }

    public int found(int index, boolean isRank) throws IndexOutOfBoundsException {
        long row = rowOf(finds, index);
        return isRank ? (int) (row >> 8) : (int) (row & 255);
    }

    public int members(int book, int house) throws IndexOutOfBoundsException, NoSuchElementException {
        Kin kin = kinOf(book);
        checkLive(bookOf(book), house);
        return kin.countMembers(kin.numberOf(house));
    }

    public int memberAt(int book, int house, int index) throws IndexOutOfBoundsException, NoSuchElementException {
        Kin kin = kinOf(book);
        checkLive(bookOf(book), house);
        int group = kin.findMember(kin.numberOf(house), index);
        if (group == NONE) {
            throw new IndexOutOfBoundsException("there is no such group");
        }
        return group;
    }

    public int yearly(int book, int year, int month, int day, int days) throws IndexOutOfBoundsException, IllegalArgumentException {
        Kin kin = kinOf(book);
        if (year >= LAST_YEAR || days < 0 || days > 365 || !Calendar.isDate(year, month, day)) {
            throw new IllegalArgumentException("there is no such date, or no such number of days");
        }
        returns.empty();
        int today = Calendar.countDays(year, month, day);
        for (int i = 0; i < kin.size; i++) {
            int group = kin.numberAt(i);
            int line = kin.findShown(group, DAY, 0);
            if (line != NONE) {
                addReturn(group, ledger.at(line).line.text, year, today, days);
            }
        }
        returns.sort();
        return returns.size;
    }

    public int yearlyAt(int index, int what) throws IndexOutOfBoundsException, IllegalArgumentException {
        long row = rowOf(returns, index);
        switch (what) {
            case 0:
                return (int) ((row >> 16) & 255);
            case 1:
                return (int) (row >> 24);
            case 2:
                return (int) (row & 65535) - YEAR_SHIFT;
            default:
                throw new IllegalArgumentException("0 to 2 can be told of a group");
        }
    }

    public int errorKind() {
        paper.check(text, ledger.size);
        return paper.errorKind;
    }

    public int errorPlace() {
        paper.check(text, ledger.size);
        return paper.errorPlace;
    }

    public int readIn(int book) throws IndexOutOfBoundsException, IllegalStateException {
        Book in = bookOf(book);
        paper.check(text, ledger.size);
        if (paper.errorKind != 0) {
            throw new IllegalStateException("the text has an error");
        }
        int made = 0;
        int lines = 0;
        for (int i = 0; i < paper.lines; i++) {
            paper.readLine(lines, i, text, country);
            lines++;
            if (paper.isLastOfCard(i)) {
                if (!in.hasCard(paper, lines)) {
                    in.makeCard(paper, lines);
                    made++;
                }
                lines = 0;
            }
        }
        text.empty();
        return made;
    }

    public boolean agree(int one, int other) throws IndexOutOfBoundsException {
        Book left = bookOf(one);
        return left.knowsTheSame(bookOf(other));
    }

    public long digest(int book) throws IndexOutOfBoundsException {
        Kin kin = kinOf(book);
        long sum = 7;
        for (int i = 0; i < kin.size; i++) {
            int group = kin.numberAt(i);
            sum = sum * 31 + group;
            for (int kind = NAME; kind <= NOTE; kind++) {
                sum = kin.addShown(group, kind, sum);
            }
        }
        return sum;
    }

    public int errors(int book) throws IndexOutOfBoundsException {
        Kin kin = kinOf(book);
        int failed = kin.areGroupsRight() ? 0 : 1;
        failed += kin.areNeversApart() ? 0 : 1;
        failed += kin.areShownInside() ? 0 : 1;
        return failed + (measure.areStrangersFar(kin) ? 0 : 1);
    }

    public double meanLines(int book) throws IndexOutOfBoundsException {
        Book in = bookOf(book);
        int entries = in.countStanding(ENTRY);
        return entries == 0 ? 0.0 : (double) in.countStanding(LINE) / (double) entries;
    }

    public float countShare(int book) throws IndexOutOfBoundsException {
        Book in = bookOf(book);
        return in.size == 0 ? 0.0f : (float) in.countCounting() / (float) in.size;
    }

    private Book bookOf(int book) {
        if (book < 0 || book >= BOOKS) {
            throw new IndexOutOfBoundsException("there is no such book");
        }
        return books[book];
    }

    private Kin kinOf(int book) {
        if (book < 0 || book >= BOOKS) {
            throw new IndexOutOfBoundsException("there is no such book");
        }
        kins[book].refresh();
        return kins[book];
    }

    private void checkChange(int change) {
        if (change < 0 || change >= ledger.size) {
            throw new IndexOutOfBoundsException("there is no such change");
        }
    }

    private void checkRoom() {
        if (ledger.size >= MOST_CHANGES) {
            throw new IllegalStateException("there are 250 changes");
        }
    }

    private void checkKind(int kind) {
        if (kind < NAME || kind > NOTE) {
            throw new IllegalArgumentException("there is no such kind of lines");
        }
    }

    private void checkLive(Book in, int entry) {
        if (!in.isLive(entry)) {
            throw new NoSuchElementException("the entry is not live in this book");
        }
    }

    private long rowOf(Answers answers, int index) {
        if (index < 0 || index >= answers.size) {
            throw new IndexOutOfBoundsException("there is no such answer");
        }
        return answers.at(index);
    }

    private int makeOfTwo(int book, int kind, int first, int second) {
        Book in = bookOf(book);
        if (first == second) {
            throw new IllegalArgumentException("both entries are the same one");
        }
        checkLive(in, first);
        checkLive(in, second);
        checkRoom();
        return in.make(kind, first, second, ledger.blank);
    }

    private void addSuggestion(Kin kin, int lesser, int greater, int bar) {
        measure.findCommon(kin, lesser, greater);
        // the letters are dear to compare, and seldom needed to see that a pair stays below the bar
        if (measure.mostPossible() < bar) {
            return;
        }
        measure.findLetters(kin, lesser, greater);
        int likeness = measure.total();
        if (likeness >= bar && kin.findNever(lesser, greater) == NONE) {
            suggestions.add(((long) (1000 - likeness) << 16) | (lesser << 8) | greater);
        }
    }

    private void addReturn(int group, Text date, int year, int today, int days) {
        int month = Forms.readNumber(date, 5, 7);
        int day = Forms.readNumber(date, 8, 10);
        int comes = year;
        int left = Calendar.countDays(comes, month, day) - today;
        if (left < 0) {
            comes++;
            left = Calendar.countDays(comes, month, day) - today;
        }
        if (left <= days) {
            int years = comes - Forms.readNumber(date, 0, 4) + YEAR_SHIFT;
            returns.add(((long) left << 24) | (group << 16) | years);
        }
    }

    /** Bytes with a length, in a room that stays. */
    private static final class Text {
        private final byte[] bytes;
        private int length;

        Text(int room) {
            bytes = new byte[room < 0 ? 0 : room];
        }

        int at(int index) {
            return index >= 0 && index < length ? bytes[index] & 255 : NONE;
        }

        void put(int sign) {
            if (length < bytes.length) {
                bytes[length] = (byte) sign;
                length++;
            }
        }

        void empty() {
            length = 0;
        }

        void copy(Text from, int start, int end) {
            empty();
            for (int i = start; i < end; i++) {
                put(from.at(i));
            }
        }

        boolean isSame(Text other) {
            if (length != other.length) {
                return false;
            }
            for (int i = 0; i < length; i++) {
                if (bytes[i] != other.bytes[i]) {
                    return false;
                }
            }
            return true;
        }

        boolean hasAt(Text part, int place) {
            if (place + part.length > length) {
                return false;
            }
            for (int i = 0; i < part.length; i++) {
                if (at(place + i) != part.at(i)) {
                    return false;
                }
            }
            return true;
        }
    }

    /** The forms of a text: PLAIN, CALL, SOUND, and what a text of a line may be. */
    private static final class Forms {
        /** The classes of a to z. */
        private static final byte[] SOUNDS = {0, 1, 2, 3, 0, 1, 2, 0, 0, 2, 2, 4, 5, 5, 0, 1, 2, 6, 2, 3, 0, 1, 0, 2, 0, 2};

        static boolean isDigit(int sign) {
            return sign >= '0' && sign <= '9';
        }

        static boolean isSmallLetter(int sign) {
            return sign >= 'a' && sign <= 'z';
        }

        static int makeSmall(int sign) {
            return sign >= 'A' && sign <= 'Z' ? sign - 'A' + 'a' : sign;
        }

        static void makePlain(Text from, Text to) {
            to.empty();
            boolean isGap = false;
            for (int i = 0; i < from.length; i++) {
                int sign = makeSmall(from.at(i));
                if (isDigit(sign) || isSmallLetter(sign)) {
                    if (isGap && to.length > 0) {
                        to.put(' ');
                    }
                    to.put(sign);
                    isGap = false;
                } else {
                    isGap = true;
                }
            }
        }

        static void makeCall(Text from, Text plain, int country, Text to) {
            if (!isNumberToCall(from)) {
                to.copy(plain, 0, plain.length);
                return;
            }
            to.empty();
            to.put('+');
            boolean isWhole = hasPlus(from);
            int zeros = isWhole ? 0 : countZeros(from);
            if (!isWhole && zeros < 2) {
                putNumber(country, to);
            }
            int passed = 0;
            for (int i = 0; i < from.length; i++) {
                if (isDigit(from.at(i))) {
                    if (passed >= zeros) {
                        to.put(from.at(i));
                    }
                    passed++;
                }
            }
        }

        private static boolean isNumberToCall(Text from) {
            boolean hasDigit = false;
            boolean hasPlus = false;
            for (int i = 0; i < from.length; i++) {
                int sign = from.at(i);
                if (isDigit(sign)) {
                    hasDigit = true;
                } else if (sign == '+') {
                    if (hasPlus || hasDigit) {
                        return false;
                    }
                    hasPlus = true;
                } else if (!isBetweenDigits(sign)) {
                    return false;
                }
            }
            return hasDigit;
        }

        private static boolean isBetweenDigits(int sign) {
            return sign == ' ' || sign == '-' || sign == '/' || sign == '(' || sign == ')' || sign == '.';
        }

        private static boolean hasPlus(Text from) {
            for (int i = 0; i < from.length; i++) {
                if (from.at(i) == '+') {
                    return true;
                }
            }
            return false;
        }

        /** How many 0 the digits begin with, two at most. */
        private static int countZeros(Text from) {
            int zeros = 0;
            for (int i = 0; i < from.length && zeros < 2; i++) {
                int sign = from.at(i);
                if (sign == '0') {
                    zeros++;
                } else if (isDigit(sign)) {
                    return zeros;
                }
            }
            return zeros;
        }

        private static void putNumber(int number, Text to) {
            if (number >= 100) {
                to.put('0' + number / 100 % 10);
            }
            if (number >= 10) {
                to.put('0' + number / 10 % 10);
            }
            to.put('0' + number % 10);
        }

        static void makeSound(Text plain, Text to) {
            to.empty();
            int ahead = 0;
            for (int i = 0; i < plain.length; i++) {
                int sign = plain.at(i);
                if (isSmallLetter(sign)) {
                    int sound = SOUNDS[sign - 'a'];
                    if (to.length == 0) {
                        to.put(sign);
                    } else if (sound != 0 && sound != ahead) {
                        to.put('0' + sound);
                    }
                    ahead = sound;
                }
            }
        }

        static boolean isForLine(int kind, Text from, int start, int end) {
            if (end - start < 1 || end - start > MOST_OF_LINE) {
                return false;
            }
            for (int i = start; i < end; i++) {
                if (from.at(i) < 32 || from.at(i) > 126) {
                    return false;
                }
            }
            return kind != DAY || isDay(from, start, end);
        }

        private static boolean isDay(Text from, int start, int end) {
            if (end - start != 10) {
                return false;
            }
            for (int i = 0; i < 10; i++) {
                int sign = from.at(start + i);
                boolean isDash = i == 4 || i == 7;
                if (isDash ? sign != '-' : !isDigit(sign)) {
                    return false;
                }
            }
            int year = readNumber(from, start, start + 4);
            int month = readNumber(from, start + 5, start + 7);
            return Calendar.isDate(year, month, readNumber(from, start + 8, start + 10));
        }

        static int readNumber(Text from, int start, int end) {
            int number = 0;
            for (int i = start; i < end; i++) {
                number = number * 10 + from.at(i) - '0';
            }
            return number;
        }
    }

    /** Days of the calendar. */
    private static final class Calendar {
        private static final int[] LENGTHS = {31, 28, 31, 30, 31, 30, 31, 31, 30, 31, 30, 31};

        static int countDaysOf(int year, int month) {
            if (month < 1 || month > LENGTHS.length) {
                return 0;
            }
            boolean isLeap = year % 4 == 0 && (year % 100 != 0 || year % 400 == 0);
            return LENGTHS[month - 1] + (month == 2 && isLeap ? 1 : 0);
        }

        static boolean isDate(int year, int month, int day) {
            return year >= 1 && year <= LAST_YEAR && day >= 1 && day <= countDaysOf(year, month);
        }

        /** The days up to a date; a 29th of February that is none counts as the 1st of March by itself. */
        static int countDays(int year, int month, int day) {
            int past = year - 1;
            int days = 365 * past + past / 4 - past / 100 + past / 400;
            for (int i = 1; i < month; i++) {
                days += countDaysOf(year, i);
            }
            return days + day;
        }
    }

    /** A text of a kind, with its forms and pieces. */
    private static final class Line {
        private int kind = NONE;
        private final Text text = new Text(MOST_OF_LINE);
        private final Text plain = new Text(MOST_OF_LINE);
        private final Text call = new Text(MOST_OF_CALL);
        private final Text sound = new Text(MOST_OF_SOUND);
        private final int[] pieces = new int[MOST_OF_LINE];
        private int pieceCount;

        void read(int newKind, Text from, int start, int end, int country) {
            kind = newKind;
            text.copy(from, start, end);
            Forms.makePlain(text, plain);
            Forms.makeSound(plain, sound);
            makeCall(country);
            pieceCount = 0;
            for (int i = 0; i < plain.length; i++) {
                addPiece((edge(i - 1) << 16) | (edge(i) << 8) | edge(i + 1));
            }
        }

        void makeCall(int country) {
            Forms.makeCall(text, plain, country, call);
        }

        private int edge(int index) {
            int sign = plain.at(index);
            return sign == NONE ? ' ' : sign;
        }

        /** Keeps the pieces in order, each once, so that two lines are compared in one go. */
        private void addPiece(int piece) {
            int place = 0;
            while (place < pieceCount && pieces[place] < piece) {
                place++;
            }
            if (pieceCount >= pieces.length || (place < pieceCount && pieces[place] == piece)) {
                return;
            }
            for (int i = pieceCount; i > place; i--) {
                pieces[i] = pieces[i - 1];
            }
            pieces[place] = piece;
            pieceCount++;
        }

        int countCommonPieces(Line other) {
            int common = 0;
            int i = 0;
            int j = 0;
            while (i < pieceCount && j < other.pieceCount) {
                int here = pieces[i];
                int there = other.pieces[j];
                if (here == there) {
                    common++;
                }
                if (here <= there) {
                    i++;
                }
                if (there <= here) {
                    j++;
                }
            }
            return common;
        }

        Text formOf(int form) {
            if (form == 1) {
                return plain;
            }
            if (form == 2) {
                return call;
            }
            return form == 3 ? sound : text;
        }

        private Text valueText() {
            if (kind == NAME || kind == PLACE) {
                return plain;
            }
            return kind == WAY ? call : text;
        }

        boolean hasValueOf(Line other) {
            return kind == other.kind && valueText().isSame(other.valueText());
        }

        boolean isOneShown() {
            return kind == NAME || kind == DAY;
        }
    }

    /** A change, as it was made. */
    private static final class Change {
        private final int number;
        private final int kind;
        private final int hand;
        private final int count;
        private final int first;
        private final int second;
        private final Line line;

        Change(int number, int kind, int hand, int count, int first, int second, Line line) {
            this.number = number;
            this.kind = kind;
            this.hand = hand;
            this.count = count;
            this.first = first;
            this.second = second;
            this.line = line;
        }

        boolean isLaterThan(Change other) {
            return count > other.count || (count == other.count && hand > other.hand);
        }

        boolean isOfTwo() {
            return kind == JOIN || kind == NEVER || kind == MEMBER;
        }
    }

    /** All changes, in the order in which they are made. */
    private static final class Ledger {
        private final Line blank = new Line();
        private final Change nothing = new Change(NONE, NONE, NONE, 0, NONE, NONE, blank);
        private final Change[] rows = new Change[MOST_CHANGES];
        private int size;

        Change at(int index) {
            return index >= 0 && index < size ? rows[index] : nothing;
        }

        void add(Change change) {
            if (size < rows.length) {
                rows[size] = change;
                size++;
            }
        }
    }

    /** What a book knows, what of it counts, and what stands. */
    private static final class Book {
        private final int hand;
        private final Ledger ledger;
        private final boolean[] knows = new boolean[MOST_CHANGES];
        private final boolean[] counting = new boolean[MOST_CHANGES];
        private final boolean[] standing = new boolean[MOST_CHANGES];
        /** The known changes from the earliest to the latest one. */
        private final Change[] order = new Change[MOST_CHANGES];
        private int size;
        private int greatest;
        /** Goes up whenever something changes that the groups or what they show are made of. */
        private int version;

        Book(int hand, Ledger ledger) {
            this.hand = hand;
            this.ledger = ledger;
        }

        void touch() {
            version++;
        }

        int make(int kind, int first, int second, Line line) {
            int number = append(kind, first, second, line);
            settle();
            return number;
        }

        private int append(int kind, int first, int second, Line line) {
            Change change = new Change(ledger.size, kind, hand, greatest + 1, first, second, line);
            ledger.add(change);
            learn(change);
            return change.number;
        }

        private void learn(Change change) {
            if (change.number < 0 || change.number >= MOST_CHANGES || size >= MOST_CHANGES) {
                return;
            }
            knows[change.number] = true;
            greatest = Math.max(greatest, change.count);
            int place = size;
            while (place > 0 && order[place - 1].isLaterThan(change)) {
                order[place] = order[place - 1];
                place--;
            }
            order[place] = change;
            size++;
        }

        int learnFrom(Book other) {
            int before = size;
            for (int i = 0; i < ledger.size; i++) {
                if (other.isKnown(i) && !isKnown(i)) {
                    learn(ledger.at(i));
                }
            }
            if (size > before) {
                settle();
            }
            return size - before;
        }

        boolean knowsTheSame(Book other) {
            for (int i = 0; i < ledger.size; i++) {
                if (isKnown(i) != other.isKnown(i)) {
                    return false;
                }
            }
            return true;
        }

        boolean isKnown(int change) {
            return change >= 0 && change < MOST_CHANGES && knows[change];
        }

        boolean isCounting(int change) {
            return change >= 0 && change < MOST_CHANGES && counting[change];
        }

        boolean isStanding(int change) {
            return change >= 0 && change < MOST_CHANGES && standing[change];
        }

        boolean isLive(int entry) {
            return isStanding(entry) && ledger.at(entry).kind == ENTRY;
        }

        /** The place-th known change from the earliest one on. */
        Change inOrder(int place) {
            return place >= 0 && place < size ? order[place] : ledger.nothing;
        }

        private void settle() {
            findCounting();
            findLive();
            findStanding();
            touch();
        }

        /** A BACK has a greater number than what it takes back, so all of one are settled before it is. */
        private void findCounting() {
            for (int i = 0; i < ledger.size; i++) {
                counting[i] = knows[i];
            }
            for (int i = ledger.size - 1; i >= 0; i--) {
                int taken = ledger.at(i).first;
                if (counting[i] && ledger.at(i).kind == BACK && taken >= 0 && taken < i) {
                    counting[taken] = false;
                }
            }
        }

        private void findLive() {
            for (int i = 0; i < ledger.size; i++) {
                standing[i] = counting[i];
            }
            for (int i = 0; i < ledger.size; i++) {
                int entry = ledger.at(i).first;
                if (counting[i] && ledger.at(i).kind == GONE && entry >= 0 && entry < i) {
                    standing[entry] = false;
                }
            }
        }

        private void findStanding() {
            for (int i = 0; i < ledger.size; i++) {
                Change change = ledger.at(i);
                if (change.kind == LINE || change.isOfTwo()) {
                    boolean areLive = isLive(change.first) && (change.kind == LINE || isLive(change.second));
                    standing[i] = counting[i] && areLive;
                }
            }
        }

        /** The latest change of the own hand is the one with the greatest number. */
        int latestOwn() {
            for (int i = ledger.size - 1; i >= 0; i--) {
                Change change = ledger.at(i);
                if (change.hand == hand && change.kind != BACK && isCounting(i)) {
                    return i;
                }
            }
            return NONE;
        }

        int countStanding(int kind) {
            int found = 0;
            for (int i = 0; i < ledger.size; i++) {
                if (ledger.at(i).kind == kind && isStanding(i)) {
                    found++;
                }
            }
            return found;
        }

        int countCounting() {
            int found = 0;
            for (int i = 0; i < ledger.size; i++) {
                if (isCounting(i)) {
                    found++;
                }
            }
            return found;
        }

        /** Whether a live entry has lines of just the kinds and values of the paper's card. */
        boolean hasCard(Paper paper, int lines) {
            for (int i = 0; i < ledger.size; i++) {
                if (isLive(i) && isCardOf(i, paper, lines)) {
                    return true;
                }
            }
            return false;
        }

        private boolean isCardOf(int entry, Paper paper, int lines) {
            if (countLinesOf(entry) != lines) {
                return false;
            }
            for (int i = 0; i < lines; i++) {
                Line line = paper.draftAt(i);
                if (countValueOf(entry, line) != paper.countValue(line, lines)) {
                    return false;
                }
            }
            return true;
        }

        private boolean isLineOf(int entry, int change) {
            Change told = ledger.at(change);
            return told.kind == LINE && told.first == entry && isStanding(change);
        }

        private int countLinesOf(int entry) {
            int found = 0;
            for (int i = entry + 1; i < ledger.size; i++) {
                if (isLineOf(entry, i)) {
                    found++;
                }
            }
            return found;
        }

        private int countValueOf(int entry, Line line) {
            int found = 0;
            for (int i = entry + 1; i < ledger.size; i++) {
                if (isLineOf(entry, i) && ledger.at(i).line.hasValueOf(line)) {
                    found++;
                }
            }
            return found;
        }

        void makeCard(Paper paper, int lines) {
            int entry = append(ENTRY, NONE, NONE, ledger.blank);
            for (int i = 0; i < lines; i++) {
                Line line = paper.takeDraft(i);
                append(LINE, entry, line.kind, line);
            }
            settle();
        }
    }

    /** The groups of a book, what they show, and how their entries are joined. */
    private static final class Kin {
        private final Book book;
        private final Ledger ledger;
        /** For a live entry the number of its group, for all else NONE. */
        private final int[] group = new int[MOST_CHANGES];
        private final boolean[] holding = new boolean[MOST_CHANGES];
        private final int[] numbers = new int[MOST_CHANGES];
        private int size;
        /** The lines that stand, group by group, each from the earliest to the latest one. */
        private final int[] lines = new int[MOST_CHANGES];
        /** Where the lines of the group of each number begin; those of the next number begin where they end. */
        private final int[] starts = new int[MOST_CHANGES + 1];
        private final boolean[] isFirstOfValue = new boolean[MOST_CHANGES];
        private final boolean[] isShown = new boolean[MOST_CHANGES];
        private final int[] steps = new int[MOST_CHANGES];
        private final int[] queue = new int[MOST_CHANGES];
        private int freshVersion = NONE;

        Kin(Book book, Ledger ledger) {
            this.book = book;
            this.ledger = ledger;
        }

        void refresh() {
            if (freshVersion == book.version) {
                return;
            }
            freshVersion = book.version;
            joinEntries();
            listGroups();
            placeLines();
            for (int i = 0; i < size; i++) {
                markShown(numberAt(i));
            }
        }

        /** All numbers are cleared, as other books may make changes that this one does not know yet. */
        private void joinEntries() {
            for (int i = 0; i < MOST_CHANGES; i++) {
                group[i] = book.isLive(i) ? i : NONE;
                holding[i] = false;
            }
            for (int i = 0; i < book.size; i++) {
                Change change = book.inOrder(i);
                if (change.kind == JOIN && book.isStanding(change.number)) {
                    joinBy(change);
                }
            }
        }

        private void joinBy(Change join) {
            int one = numberOf(join.first);
            int other = numberOf(join.second);
            if (one == NONE || other == NONE || findNever(one, other) != NONE) {
                return;
            }
            holding[join.number] = true;
            int least = Math.min(one, other);
            int most = Math.max(one, other);
            for (int i = 0; i < ledger.size; i++) {
                if (group[i] == most) {
                    group[i] = least;
                }
            }
        }

        private void listGroups() {
            size = 0;
            for (int i = 0; i < ledger.size; i++) {
                if (group[i] == i) {
                    numbers[size] = i;
                    size++;
                }
            }
        }

        /** Counts the lines of each group first, then puts them behind the lines of the groups ahead. */
        private void placeLines() {
            Arrays.fill(starts, 0);
            for (int i = 0; i < ledger.size; i++) {
                int owner = ownerOf(ledger.at(i));
                if (owner >= 0 && owner < MOST_CHANGES) {
                    starts[owner]++;
                }
            }
            for (int i = 1; i < starts.length; i++) {
                starts[i] += starts[i - 1];
            }
            for (int i = book.size - 1; i >= 0; i--) {
                Change change = book.inOrder(i);
                int owner = ownerOf(change);
                if (owner >= 0 && owner < MOST_CHANGES) {
                    starts[owner]--;
                    putLine(starts[owner], change.number);
                }
            }
        }

        private void putLine(int place, int line) {
            if (place >= 0 && place < MOST_CHANGES) {
                lines[place] = line;
            }
        }

        /** The group of a line that stands; NONE for all else. */
        private int ownerOf(Change change) {
            return change.kind == LINE && book.isStanding(change.number) ? numberOf(change.first) : NONE;
        }

        private void markShown(int number) {
            int start = startOf(number);
            int end = endOf(number);
            for (int i = start; i < end; i++) {
                Line line = lineAt(i);
                boolean isFirst = !hasValueBetween(start, i, line);
                isFirstOfValue[i] = isFirst;
                isShown[i] = line.isOneShown() ? !hasKindBetween(i + 1, end, line.kind) : isFirst;
            }
        }

        private boolean hasValueBetween(int start, int end, Line line) {
            for (int i = start; i < end; i++) {
                if (lineAt(i).hasValueOf(line)) {
                    return true;
                }
            }
            return false;
        }

        private boolean hasKindBetween(int start, int end, int kind) {
            for (int i = start; i < end; i++) {
                if (lineAt(i).kind == kind) {
                    return true;
                }
            }
            return false;
        }

        int numberAt(int index) {
            return index >= 0 && index < size ? numbers[index] : NONE;
        }

        int numberOf(int entry) {
            return entry >= 0 && entry < ledger.size ? group[entry] : NONE;
        }

        boolean isHolding(int change) {
            return change >= 0 && change < MOST_CHANGES && holding[change];
        }

        int startOf(int number) {
            return number >= 0 && number < MOST_CHANGES ? Math.max(starts[number], 0) : 0;
        }

        int endOf(int number) {
            return number >= 0 && number < MOST_CHANGES ? Math.min(starts[number + 1], MOST_CHANGES) : 0;
        }

        Line lineAt(int place) {
            return ledger.at(changeAt(place)).line;
        }

        private int changeAt(int place) {
            return place >= 0 && place < MOST_CHANGES ? lines[place] : NONE;
        }

        int countEntries(int number) {
            int found = 0;
            for (int i = 0; i < ledger.size; i++) {
                if (group[i] == number) {
                    found++;
                }
            }
            return found;
        }

        /** The earliest NEVER that stands between two groups. */
        int findNever(int one, int other) {
            for (int i = 0; i < book.size; i++) {
                Change change = book.inOrder(i);
                if (change.kind == NEVER && book.isStanding(change.number)) {
                    int left = numberOf(change.first);
                    int right = numberOf(change.second);
                    if ((left == one && right == other) || (left == other && right == one)) {
                        return change.number;
                    }
                }
            }
            return NONE;
        }

        /** How many entries the shortest path has; the steps to its end stay known for walk(). */
        int measurePath(int one, int other) {
            Arrays.fill(steps, NONE);
            if (numberOf(one) == NONE || numberOf(other) == NONE) {
                return 0;
            }
            steps[other] = 0;
            queue[0] = other;
            int filled = 1;
            for (int i = 0; i < filled; i++) {
                int here = queue[i];
                for (int j = 0; j < ledger.size; j++) {
                    int next = otherEnd(j, here);
                    if (next != NONE && steps[next] == NONE && filled < queue.length) {
                        steps[next] = steps[here] + 1;
                        queue[filled] = next;
                        filled++;
                    }
                }
            }
            return steps[one] + 1;
        }

        /** The live entry that a JOIN that holds joins to another one. */
        private int otherEnd(int join, int entry) {
            if (!isHolding(join)) {
                return NONE;
            }
            Change change = ledger.at(join);
            if (change.first == entry && numberOf(change.second) != NONE) {
                return change.second;
            }
            return change.second == entry && numberOf(change.first) != NONE ? change.first : NONE;
        }

        int walk(int one, int length) {
            int here = one;
            for (int i = 0; i < length; i++) {
                int least = NONE;
                for (int j = 0; j < ledger.size; j++) {
                    int next = otherEnd(j, here);
                    if (next != NONE && steps[next] == steps[here] - 1 && (least == NONE || next < least)) {
                        least = next;
                    }
                }
                if (least == NONE) {
                    return here;
                }
                here = least;
            }
            return here;
        }

        int countShown(int number, int kind) {
            int found = 0;
            for (int i = startOf(number); i < endOf(number); i++) {
                if (isShown[i] && lineAt(i).kind == kind) {
                    found++;
                }
            }
            return found;
        }

        int findShown(int number, int kind, int index) {
            int found = 0;
            for (int i = startOf(number); i < endOf(number); i++) {
                if (isShown[i] && lineAt(i).kind == kind) {
                    if (found == index) {
                        return changeAt(i);
                    }
                    found++;
                }
            }
            return NONE;
        }

        long addShown(int number, int kind, long sum) {
            long all = sum;
            for (int i = startOf(number); i < endOf(number); i++) {
                if (isShown[i] && lineAt(i).kind == kind) {
                    all = all * 31 + changeAt(i);
                }
            }
            return all;
        }

        int countValues(int number, int kind) {
            int found = 0;
            for (int i = startOf(number); i < endOf(number); i++) {
                if (isFirstOfValue[i] && lineAt(i).kind == kind) {
                    found++;
                }
            }
            return found;
        }

        private boolean isMember(int house, int number) {
            if (house == number) {
                return false;
            }
            for (int i = 0; i < ledger.size; i++) {
                Change change = ledger.at(i);
                if (change.kind == MEMBER && book.isStanding(i)
                        && numberOf(change.first) == house && numberOf(change.second) == number) {
                    return true;
                }
            }
            return false;
        }

        int countMembers(int house) {
            int found = 0;
            for (int i = 0; i < size; i++) {
                if (isMember(house, numbers[i])) {
                    found++;
                }
            }
            return found;
        }

        int findMember(int house, int index) {
            int found = 0;
            for (int i = 0; i < size; i++) {
                if (isMember(house, numbers[i])) {
                    if (found == index) {
                        return numbers[i];
                    }
                    found++;
                }
            }
            return NONE;
        }

        /** Finds the groups anew: each JOIN that holds gives both entries the lesser number, until none changes. */
        boolean areGroupsRight() {
            for (int i = 0; i < ledger.size; i++) {
                steps[i] = book.isLive(i) ? i : NONE;
            }
            boolean isChanged = true;
            for (int i = 0; i <= ledger.size && isChanged; i++) {
                isChanged = spreadNumbers();
            }
            for (int i = 0; i < ledger.size; i++) {
                if (steps[i] != group[i]) {
                    return false;
                }
            }
            return !isChanged;
        }

        private boolean spreadNumbers() {
            boolean isChanged = false;
            for (int i = 0; i < ledger.size; i++) {
                int one = ledger.at(i).first;
                int other = isHolding(i) ? otherEnd(i, one) : NONE;
                if (other != NONE && numberOf(one) != NONE && steps[one] != steps[other]) {
                    steps[one] = Math.min(steps[one], steps[other]);
                    steps[other] = steps[one];
                    isChanged = true;
                }
            }
            return isChanged;
        }

        boolean areNeversApart() {
            for (int i = 0; i < size; i++) {
                if (findNever(numbers[i], numbers[i]) != NONE) {
                    return false;
                }
            }
            return true;
        }

        boolean areShownInside() {
            for (int i = 0; i < size; i++) {
                for (int j = startOf(numbers[i]); j < endOf(numbers[i]); j++) {
                    if (isShown[j] && ownerOf(ledger.at(changeAt(j))) != numbers[i]) {
                        return false;
                    }
                }
            }
            return true;
        }
    }

    /** How like groups are, and how well names answer a search. */
    private static final class Measure {
        /** One row of the table of distances, used again and again, and the signs above it. */
        private final int[] row = new int[MOST_BYTES + 1];
        private final int[] signs = new int[MOST_BYTES + 1];
        private int letters;
        private int pieces;
        private int sounds;
        private int calls;

        int measureGroups(Kin kin, int one, int other) {
            findCommon(kin, one, other);
            findLetters(kin, one, other);
            return total();
        }

        void findCommon(Kin kin, int one, int other) {
            letters = 0;
            pieces = 0;
            sounds = 0;
            calls = 0;
            for (int i = kin.startOf(one); i < kin.endOf(one); i++) {
                Line left = kin.lineAt(i);
                for (int j = kin.startOf(other); j < kin.endOf(other); j++) {
                    compareForms(left, kin.lineAt(j));
                }
            }
        }

        private void compareForms(Line left, Line right) {
            if (left.kind == NAME && right.kind == NAME) {
                int all = left.pieceCount + right.pieceCount;
                if (all > 0) {
                    pieces = Math.max(pieces, 2000 * left.countCommonPieces(right) / all);
                }
                if (left.sound.length > 0 && left.sound.isSame(right.sound)) {
                    sounds = 1000;
                }
            }
            if (left.kind == WAY && right.kind == WAY && left.call.length > 0 && left.call.isSame(right.call)) {
                calls = 1000;
            }
        }

        void findLetters(Kin kin, int one, int other) {
            for (int i = kin.startOf(one); i < kin.endOf(one); i++) {
                Line left = kin.lineAt(i);
                for (int j = kin.startOf(other); j < kin.endOf(other); j++) {
                    Line right = kin.lineAt(j);
                    if (left.kind == NAME && right.kind == NAME) {
                        letters = Math.max(letters, compareLetters(left.plain, right.plain));
                    }
                }
            }
        }

        private int compareLetters(Text left, Text right) {
            int most = Math.max(left.length, right.length);
            if (left.length == 0 || right.length == 0 || most == 0) {
                return 0;
            }
            return 1000 - 1000 * findDistance(left, 0, left.length, right) / most;
        }

        /** The least number of bytes to put in, take out and change that make a part of a text another text. */
        private int findDistance(Text left, int start, int end, Text right) {
            int width = Math.min(right.length, MOST_BYTES);
            row[0] = 0;
            for (int j = 1; j <= width; j++) {
                signs[j] = right.at(j - 1);
                row[j] = j;
            }
            for (int i = start; i < end; i++) {
                fillRow(left.at(i), width);
            }
            return row[width];
        }

        /** Goes on by one byte. This runs more often than all else, so it calls nothing. */
        private void fillRow(int sign, int width) {
            int slanted = row[0];
            int behind = slanted + 1;
            row[0] = behind;
            for (int j = 1; j <= width; j++) {
                int above = row[j];
                if (sign == signs[j]) {
                    behind = slanted;
                } else {
                    int least = above < behind ? above : behind;
                    behind = 1 + (slanted < least ? slanted : least);
                }
                row[j] = behind;
                slanted = above;
            }
        }

        boolean isCommon() {
            return pieces > 0 || sounds > 0 || calls > 0;
        }

        int total() {
            return (4 * letters + 2 * pieces + 2 * sounds + 2 * calls) / 10;
        }

        int mostPossible() {
            return (4000 + 2 * pieces + 2 * sounds + 2 * calls) / 10;
        }

        boolean areStrangersFar(Kin kin) {
            for (int i = 0; i < kin.size; i++) {
                for (int j = i + 1; j < kin.size; j++) {
                    findCommon(kin, kin.numberAt(i), kin.numberAt(j));
                    if (!isCommon()) {
                        findLetters(kin, kin.numberAt(i), kin.numberAt(j));
                        if (total() > 400) {
                            return false;
                        }
                    }
                }
            }
            return true;
        }

        /** The least rank of all NAMEs of a group; NONE if none of them is found. */
        int rankGroup(Kin kin, int number, int how, Text sought) {
            int least = NONE;
            for (int i = kin.startOf(number); i < kin.endOf(number); i++) {
                Line line = kin.lineAt(i);
                if (line.kind == NAME) {
                    int rank = how == PART ? findPlace(line.plain, sought) : rankWords(line.plain, how, sought);
                    least = lesser(least, rank);
                }
            }
            return least;
        }

        private static int lesser(int one, int other) {
            if (one == NONE || other == NONE) {
                return Math.max(one, other);
            }
            return Math.min(one, other);
        }

        private static int findPlace(Text name, Text sought) {
            for (int i = 0; i + sought.length <= name.length; i++) {
                if (name.hasAt(sought, i)) {
                    return i;
                }
            }
            return NONE;
        }

        private int rankWords(Text name, int how, Text sought) {
            int least = NONE;
            int start = 0;
            for (int i = 0; i <= name.length; i++) {
                if (i == name.length || name.at(i) == ' ') {
                    if (i > start) {
                        int rank = how == BEGINS ? rankBegin(name, start, i, sought) : rankNear(name, start, i, sought);
                        least = lesser(least, rank);
                    }
                    start = i + 1;
                }
            }
            return least;
        }

        private static int rankBegin(Text name, int start, int end, Text sought) {
            int more = end - start - sought.length;
            return more >= 0 && name.hasAt(sought, start) ? more : NONE;
        }

        private int rankNear(Text name, int start, int end, Text sought) {
            int more = end - start - sought.length;
            if (more < -2 || more > 2) {
                return NONE;
            }
            int distance = findDistance(name, start, end, sought);
            return distance <= 2 ? distance : NONE;
        }
    }

    /** A text read as a paper: its first error, or its lines and cards. */
    private static final class Paper {
        private final int[] kinds = new int[MOST_LINES_OF_PAPER];
        private final int[] starts = new int[MOST_LINES_OF_PAPER];
        private final int[] ends = new int[MOST_LINES_OF_PAPER];
        private final boolean[] isLast = new boolean[MOST_LINES_OF_PAPER];
        private final Line[] drafts = new Line[MOST_LINES_OF_PAPER];
        private int lines;
        private int errorKind;
        private int errorPlace;

        void check(Text text, int changes) {
            lines = 0;
            errorKind = 0;
            errorPlace = NONE;
            int cards = 0;
            int at = 0;
            boolean isInCard = false;
            for (int i = 0; i < MOST_LINES_OF_PAPER && errorKind == 0 && (isInCard || at < text.length); i++) {
                at = checkLine(text, at);
                isInCard = text.at(at) == ';';
                if (errorKind == 0) {
                    isLast[i] = !isInCard;
                    cards += isInCard ? 0 : 1;
                    lines++;
                    at++;
                }
            }
            if (errorKind == 0 && changes + cards + lines > MOST_CHANGES) {
                tell(3, text.length);
            }
        }

        /** Checks a line of a card and keeps where it stands; its end is the place of the sign behind it. */
        private int checkLine(Text text, int at) {
            int kind = kindOf(text.at(at));
            int start = at + 2;
            if (kind == NONE) {
                return tell(1, Math.min(at, text.length));
            }
            if (text.at(at + 1) != ':') {
                return tell(1, Math.min(at + 1, text.length));
            }
            if (start >= text.length) {
                return tell(1, text.length);
            }
            int end = start;
            while (end < text.length && !isEnd(text.at(end))) {
                end++;
            }
            if (!Forms.isForLine(kind, text, start, end)) {
                return tell(2, start);
            }
            if (end >= text.length || text.at(end) == ':') {
                return tell(1, end);
            }
            if (lines < MOST_LINES_OF_PAPER) {
                kinds[lines] = kind;
                starts[lines] = start;
                ends[lines] = end;
            }
            return end;
        }

        private int tell(int kind, int place) {
            errorKind = kind;
            errorPlace = place;
            return place;
        }

        private static boolean isEnd(int sign) {
            return sign == ';' || sign == '.' || sign == ':';
        }

        private static int kindOf(int sign) {
            switch (sign) {
                case 'n':
                    return NAME;
                case 'w':
                    return WAY;
                case 'p':
                    return PLACE;
                case 'd':
                    return DAY;
                case 't':
                    return NOTE;
                default:
                    return NONE;
            }
        }

        boolean isLastOfCard(int line) {
            return line >= 0 && line < lines && isLast[line];
        }

        /** Makes the draft of a line of the card; a draft that is not taken is used again. */
        void readLine(int place, int line, Text text, int country) {
            if (line >= 0 && line < lines) {
                draftAt(place).read(kinds[line], text, starts[line], ends[line], country);
            }
        }

        Line draftAt(int place) {
            if (place < 0 || place >= drafts.length) {
                return new Line();
            }
            if (drafts[place] == null) {
                drafts[place] = new Line();
            }
            return drafts[place];
        }

        Line takeDraft(int place) {
            Line draft = draftAt(place);
            if (place >= 0 && place < drafts.length) {
                drafts[place] = null;
            }
            return draft;
        }

        int countValue(Line line, int size) {
            int found = 0;
            for (int i = 0; i < size; i++) {
                if (draftAt(i).hasValueOf(line)) {
                    found++;
                }
            }
            return found;
        }
    }

    /** A row of answers, each packed so that the least one comes first. */
    private static final class Answers {
        private long[] rows = new long[16];
        private int size;

        void empty() {
            size = 0;
        }

        void add(long row) {
            if (size >= MOST_PAIRS) {
                return;
            }
            if (size >= rows.length) {
                rows = Arrays.copyOf(rows, size * 2 + 1);
            }
            rows[size] = row;
            size++;
        }

        long at(int index) {
            return index >= 0 && index < size ? rows[index] : 0;
        }

        void sort() {
            for (int i = size / 2 - 1; i >= 0; i--) {
                sink(i, size);
            }
            for (int end = size - 1; end > 0; end--) {
                swap(0, end);
                sink(0, end);
            }
        }

        private void sink(int from, int end) {
            int top = from;
            int below = 2 * top + 1;
            while (below < end) {
                if (below + 1 < end && rows[below + 1] > rows[below]) {
                    below++;
                }
                if (rows[top] >= rows[below]) {
                    return;
                }
                swap(top, below);
                top = below;
                below = 2 * top + 1;
            }
        }

        private void swap(int one, int other) {
            long kept = rows[one];
            rows[one] = rows[other];
            rows[other] = kept;
        }
    }
}
