/** The edges of promises 41 to 43: one test for each sentence. */
public final class EdgesOfPapersTest {
    private static final Checks CHECKS = new Checks("EdgesOfPapersTest");
    private static final String FORTY = "a234567890b234567890c234567890d234567890";
    /** A paper with a line of each kind, two cards and all signs; each place of it is broken by each byte. */
    private static final String SAMPLE = "n:A b;d:2000-02-29.w:1.t:x;p:y.";

    public static void main(String[] args) {
        emptyPaperIsOne();
        cardsAreOneOrMore();
        linesAreOneOrMore();
        linesAreOfFiveKinds();
        kindLetterAndColonMustStand();
        textEndsAtItsSigns();
        textThatEndsTooEarly();
        textOfOneToFortyBytes();
        textOfOtherBytes();
        textThatIsNoDay();
        emptyTextOfALine();
        firstErrorIsTold();
        eachByteAtEachPlace();
        eachLengthOfAPaper();
        errorsAreAskedInAnyOrder();
        tooManyChanges();
        tooManyThoughKnown();
        otherErrorsGoAheadOfTooMany();
        nothingIsReadWithAnError();
        entriesAndLinesInTheirOrder();
        readInEmptiesTheText();
        readInCountsEntries();
        knownCardsInAnyOrder();
        knownCardsEachAsOften();
        knownCardsOfTheSameKinds();
        knownCardsByValues();
        knownCardsOfLiveEntries();
        knownCardsOfOneEntry();
        knownCardsOfThatBook();
        knownCardsOfThePaperItself();
        longestPapers();
        CHECKS.end();
    }

    private static void hasError(String text, int kind, int place) {
        KindredBooks books = new KindredBooks();
        Checks.type(books, text);
        CHECKS.same("errorKind of \"" + text + "\"", books.errorKind(), kind);
        CHECKS.same("errorPlace of \"" + text + "\"", books.errorPlace(), place);
        CHECKS.same("the text of \"" + text + "\"", books.type(0), text.length());
        String read = Checks.outcome(() -> books.readIn(0));
        CHECKS.same("readIn of \"" + text + "\"", read.equals(Checks.STATE) ? 1 : 0, kind == 0 ? 0 : 1);
        CHECKS.same("the text behind it", books.type(0), kind == 0 ? 0 : text.length());
        if (kind != 0) {
            CHECKS.same("changes behind it", books.changes(), 0);
        }
    }

    private static void isRight(String text) {
        hasError(text, 0, KindredBooks.NONE);
    }

    private static int read(KindredBooks books, int book, String text) {
        books.clearText();
        Checks.type(books, text);
        return books.readIn(book);
    }

    /** "A paper is cards, one behind the other (perhaps none)"; "0 without an error", "NONE without an error". */
    private static void emptyPaperIsOne() {
        isRight("");
        KindredBooks books = new KindredBooks();
        CHECKS.same("entries of an empty paper", books.readIn(2), 0);
        CHECKS.same("changes", books.changes(), 0);
        CHECKS.throwsA("in no book", Checks.INDEX, () -> books.readIn(3));
    }

    private static void cardsAreOneOrMore() {
        isRight("t:a.");
        isRight("t:a.t:b.");
        isRight("t:a.t:a.t:a.");
        hasError(".", 1, 0);
        hasError("t:a..", 1, 4);
        hasError("t:a. t:b.", 1, 4);
        hasError("t:a.;t:b.", 1, 4);
    }

    /** "a card is one line or more, with ; between two, and . behind the last one". */
    private static void linesAreOneOrMore() {
        isRight("t:a;t:b.");
        isRight("t:a;t:b;t:c.t:d;t:e.");
        hasError(";", 1, 0);
        hasError("t:a;.", 1, 4);
        hasError("t:a;;t:b.", 1, 4);
        hasError("t:a;", 1, 4);
        hasError("t:a;t:b", 1, 7);
        hasError("t:a;t:b;", 1, 8);
    }

    /** "a line is n, w, p, d or t": each byte as the letter. */
    private static void linesAreOfFiveKinds() {
        for (int sign = 1; sign < 256; sign++) {
            char letter = (char) sign;
            if ("nwpt".indexOf(letter) >= 0) {
                isRight(letter + ":2000-01-01.");
            } else if (letter == 'd') {
                isRight("d:2000-01-01.");
            } else {
                hasError(letter + ":2000-01-01.", 1, 0);
                hasError("t:a;" + letter + ":2000-01-01.", 1, 4);
            }
        }
        KindredBooks books = new KindredBooks();
        read(books, 0, "d:2000-01-01;t:a;p:b;w:c;n:d.");
        int[] kinds = {KindredBooks.DAY, KindredBooks.NOTE, KindredBooks.PLACE, KindredBooks.WAY, KindredBooks.NAME};
        for (int i = 0; i < kinds.length; i++) {
            CHECKS.same("kind of line " + i, books.change(i + 1, 4), kinds[i]);
        }
    }

    /** "kind 1, a byte that cannot stand there, at it, or, if the text ends too early, its length": ahead of a text. */
    private static void kindLetterAndColonMustStand() {
        hasError("n", 1, 1);
        hasError("nn:a.", 1, 1);
        hasError("n;", 1, 1);
        hasError("n.", 1, 1);
        hasError("n a.", 1, 1);
        hasError(":a.", 1, 0);
        hasError("N:a.", 1, 0);
        hasError(" n:a.", 1, 0);
        hasError("n:a;w", 1, 5);
        hasError("n:a.w", 1, 5);
        hasError("n:a;w;", 1, 5);
    }

    /** "its text, as long as no ; . or : comes": a : cannot stand behind it. */
    private static void textEndsAtItsSigns() {
        hasError("n:a:b.", 1, 3);
        hasError("n:a:", 1, 3);
        hasError("n:a;t:b:;", 1, 7);
        isRight("n:a b,c!d-e/f?g.");
        isRight("t: .");
        isRight("t:nwpdt.");
        KindredBooks books = new KindredBooks();
        read(books, 0, "t: a;t:b .");
        CHECKS.same("blanks are of the text", Checks.form(books, 1, 0), " a");
        CHECKS.same("at the end, too", Checks.form(books, 2, 0), "b ");
    }

    private static void textThatEndsTooEarly() {
        hasError("n:", 1, 2);
        hasError("n:a", 1, 3);
        hasError("n:a;w:", 1, 6);
        hasError("n:a.w:", 1, 6);
        hasError("n:a.d:2000-02-29", 1, 16);
        hasError("n:" + FORTY, 1, 42);
    }

    /** "too long": 40 and 41 bytes. */
    private static void textOfOneToFortyBytes() {
        for (String letter : new String[] {"n", "w", "p", "t"}) {
            isRight(letter + ":x.");
            isRight(letter + ":" + FORTY + ".");
            hasError(letter + ":" + FORTY + "1.", 2, 2);
            hasError("t:a;" + letter + ":" + FORTY + "1;t:b.", 2, 6);
            hasError(letter + ":" + FORTY + "1", 2, 2);
            hasError(letter + ":" + FORTY + "1:", 2, 2);
        }
        KindredBooks books = new KindredBooks();
        read(books, 0, "t:" + FORTY + ".");
        CHECKS.same("all of it", Checks.form(books, 1, 0), FORTY);
    }

    /** "with other bytes": each byte, alone and behind another one; it is told at the first byte of the text. */
    private static void textOfOtherBytes() {
        for (int sign = 1; sign < 256; sign++) {
            char one = (char) sign;
            if (";.:".indexOf(one) < 0) {
                boolean isRight = sign >= 32 && sign <= 126;
                hasError("t:" + one + ".", isRight ? 0 : 2, isRight ? -1 : 2);
                hasError("t:a;n:ab" + one + ".", isRight ? 0 : 2, isRight ? -1 : 6);
            }
        }
    }

    /** "or no day". */
    private static void textThatIsNoDay() {
        isRight("d:2000-02-29.");
        hasError("d:2001-02-29.", 2, 2);
        hasError("d:1900-02-29.", 2, 2);
        hasError("d:0000-01-01.", 2, 2);
        isRight("d:0001-01-01.");
        isRight("d:9999-12-31.");
        hasError("d:2000-1-01.", 2, 2);
        hasError("d:2000-01-011.", 2, 2);
        hasError("d: 2000-01-01.", 2, 2);
        hasError("d:a.", 2, 2);
        hasError("t:a;d:2000-04-31;t:b.", 2, 6);
        hasError("d:2000-04-3", 2, 2);
        hasError("d:2000-04-31", 2, 2);
        isRight("n:2000-04-31.");
    }

    /** "of an empty one the byte behind the :, but kind 1 if the text ends there". */
    private static void emptyTextOfALine() {
        for (String letter : new String[] {"n", "w", "p", "d", "t"}) {
            hasError(letter + ":", 1, 2);
            hasError(letter + ":.", 2, 2);
            hasError(letter + ":;", 2, 2);
            hasError(letter + ":;t:a.", 2, 2);
            hasError("t:a." + letter + ":.", 2, 6);
            hasError("t:a;" + letter + ":", 1, 6);
        }
    }

    /** "the first one from the front on is told". */
    private static void firstErrorIsTold() {
        hasError("n:.x", 2, 2);
        hasError("x:.n:.", 1, 0);
        hasError("n:a;x:b.n:.", 1, 4);
        hasError("n:a;n:;x:b.", 2, 6);
        hasError("d:1;n:", 2, 2);
        hasError("n:a:d:1.", 1, 3);
        hasError("n:\u0001:", 2, 2);
        hasError("n:" + FORTY + FORTY, 2, 2);
    }

    private static void asModel(String text) {
        KindredBooks books = new KindredBooks();
        Model model = new Model();
        Checks.type(books, text);
        for (char sign : text.toCharArray()) {
            model.type(sign);
        }
        CHECKS.same("errorKind of \"" + text + "\"", books.errorKind(), model.errorKind());
        CHECKS.same("errorPlace of \"" + text + "\"", books.errorPlace(), model.errorPlace());
    }

    /** A right paper with each byte in place of each of its own, put in ahead of each, and without each. */
    private static void eachByteAtEachPlace() {
        isRight(SAMPLE);
        for (int place = 0; place <= SAMPLE.length(); place++) {
            for (int sign = 1; sign < 256; sign++) {
                asModel(SAMPLE.substring(0, place) + (char) sign + SAMPLE.substring(place));
                if (place < SAMPLE.length()) {
                    asModel(SAMPLE.substring(0, place) + (char) sign + SAMPLE.substring(place + 1));
                }
            }
            if (place < SAMPLE.length()) {
                asModel(SAMPLE.substring(0, place) + SAMPLE.substring(place + 1));
            }
        }
    }

    /** A right paper that ends at each of its places: right behind each . alone, else kind 1 or, in the day, kind 2. */
    private static void eachLengthOfAPaper() {
        int dayStart = SAMPLE.indexOf("2000");
        for (int length = 0; length <= SAMPLE.length(); length++) {
            boolean isWhole = length == 0 || SAMPLE.charAt(length - 1) == '.';
            boolean isInDay = length > dayStart && length < dayStart + 10;
            hasError(SAMPLE.substring(0, length), isWhole ? 0 : isInDay ? 2 : 1, isWhole ? -1 : isInDay ? dayStart : length);
        }
    }

    /** What is told is that of the text as it is then, whichever is asked first. */
    private static void errorsAreAskedInAnyOrder() {
        KindredBooks books = new KindredBooks();
        CHECKS.same("place of none", books.errorPlace(), -1);
        Checks.type(books, "t:a;");
        CHECKS.same("place", books.errorPlace(), 4);
        CHECKS.same("kind", books.errorKind(), 1);
        Checks.type(books, "t:");
        CHECKS.same("place of more", books.errorPlace(), 6);
        Checks.type(books, ".");
        CHECKS.same("kind of more", books.errorKind(), 2);
        books.clearText();
        CHECKS.same("kind of none", books.errorKind(), 0);
        Checks.type(books, "t:a.");
        CHECKS.same("place of a right one", books.errorPlace(), -1);
        CHECKS.same("it is not read by that", books.changes(), 0);
        CHECKS.same("the text stays", books.type(0), 4);
    }

    /** "there would be more than 250 changes if no card was known, at the length": 250 and 251. */
    private static void tooManyChanges() {
        String[] papers = {"t:a.", "t:a;t:b.", "t:a.t:b.", "t:a;t:b;t:c.n:d."};
        int[] changes = {2, 3, 4, 6};
        for (int i = 0; i < papers.length; i++) {
            KindredBooks books = new KindredBooks();
            Checks.fill(books, 250 - changes[i]);
            Checks.type(books, papers[i]);
            CHECKS.same("kind at 250", books.errorKind(), 0);
            CHECKS.same("place at 250", books.errorPlace(), -1);
            books.entry(2);
            CHECKS.same("kind at 251", books.errorKind(), 3);
            CHECKS.same("place at 251", books.errorPlace(), papers[i].length());
            CHECKS.throwsA("readIn at 251", Checks.STATE, () -> books.readIn(0));
            CHECKS.same("changes", books.changes(), 251 - changes[i]);
            CHECKS.same("the text stays", books.type(0), papers[i].length());
            KindredBooks just = new KindredBooks();
            Checks.fill(just, 250 - changes[i]);
            CHECKS.isTrue("readIn at 250", read(just, 0, papers[i]) > 0);
            CHECKS.same("changes", just.changes(), 250);
            CHECKS.same("a paper without cards at 250", just.errorKind(), 0);
            CHECKS.same("is read", just.readIn(0), 0);
        }
    }

    /** "if no card was known": known ones are counted, of the paper itself, too. */
    private static void tooManyThoughKnown() {
        KindredBooks books = new KindredBooks();
        read(books, 0, "t:a.");
        Checks.fill(books, 247);
        Checks.type(books, "t:a.t:a.");
        CHECKS.same("kind", books.errorKind(), 3);
        CHECKS.same("place", books.errorPlace(), 8);
        CHECKS.throwsA("readIn", Checks.STATE, () -> books.readIn(0));
        KindredBooks less = new KindredBooks();
        read(less, 0, "t:a.");
        Checks.fill(less, 246);
        CHECKS.same("readIn with two less", read(less, 0, "t:a.t:a."), 0);
        CHECKS.same("none is made", less.changes(), 246);
        CHECKS.same("and again, elsewhere", read(less, 1, "t:a.t:a."), 1);
        CHECKS.same("one is made", less.changes(), 248);
    }

    /** "kind 3, the text has no error of these, but ..". */
    private static void otherErrorsGoAheadOfTooMany() {
        KindredBooks books = new KindredBooks();
        Checks.fill(books);
        String[] papers = {"t:a.", "t:a.x", "t:a", "t:a.t:.", "t:", "d:1.t:a.", "x"};
        int[][] due = {{3, 4}, {1, 4}, {1, 3}, {2, 6}, {1, 2}, {2, 2}, {1, 0}};
        for (int i = 0; i < papers.length; i++) {
            books.clearText();
            Checks.type(books, papers[i]);
            CHECKS.same("kind of \"" + papers[i] + "\"", books.errorKind(), due[i][0]);
            CHECKS.same("place of \"" + papers[i] + "\"", books.errorPlace(), due[i][1]);
            CHECKS.throwsA("readIn of \"" + papers[i] + "\"", Checks.STATE, () -> books.readIn(0));
        }
    }

    /** "Throws IllegalStateException if the text has an error": none of the right cards ahead of it is made. */
    private static void nothingIsReadWithAnError() {
        KindredBooks books = new KindredBooks();
        Checks.type(books, "t:a.n:b;w:1.t:c");
        CHECKS.throwsA("readIn", Checks.STATE, () -> books.readIn(1));
        CHECKS.same("changes", books.changes(), 0);
        CHECKS.same("the text", books.type('.'), 16);
        CHECKS.same("the whole paper", books.readIn(1), 3);
        CHECKS.same("changes of the whole paper", books.changes(), 7);
    }

    /** "For each card, one behind the other, an ENTRY is made, and then its lines in their order". */
    private static void entriesAndLinesInTheirOrder() {
        KindredBooks books = new KindredBooks();
        books.entry(0);
        CHECKS.same("three cards", read(books, 0, "t:b;n:a.w:1;w:1.d:2000-01-01."), 3);
        int[][] due = {{KindredBooks.ENTRY, -1, -1, 0}, {KindredBooks.LINE, 1, KindredBooks.NOTE, 1}, {KindredBooks.LINE, 1, KindredBooks.NAME, 1},
            {KindredBooks.ENTRY, -1, -1, 0}, {KindredBooks.LINE, 4, KindredBooks.WAY, 1}, {KindredBooks.LINE, 4, KindredBooks.WAY, 1},
            {KindredBooks.ENTRY, -1, -1, 0}, {KindredBooks.LINE, 7, KindredBooks.DAY, 10}};
        for (int i = 0; i < due.length; i++) {
            int change = i + 1;
            CHECKS.same("kind of " + change, books.change(change, 0), due[i][0]);
            CHECKS.same("hand of " + change, books.change(change, 1), 0);
            CHECKS.same("count of " + change, books.change(change, 2), change + 1);
            CHECKS.same("entry of " + change, books.change(change, 3), due[i][1]);
            CHECKS.same("kind of line of " + change, books.change(change, 4), due[i][2]);
            CHECKS.same("length of " + change, books.change(change, 5), due[i][3]);
            CHECKS.isTrue("stands", books.stands(0, change));
        }
        CHECKS.same("changes", books.changes(), 9);
        CHECKS.same("the last line", books.undo(0), 8);
    }

    /** "Reads the text as a paper into a book, and empties it": with no card made, too. */
    private static void readInEmptiesTheText() {
        KindredBooks books = new KindredBooks();
        read(books, 0, "t:a.");
        CHECKS.same("behind a card", books.type(0), 0);
        read(books, 0, "t:a.");
        CHECKS.same("behind a known card", books.type(0), 0);
        CHECKS.throwsA("no text for a line", Checks.STATE, () -> books.line(0, 0, KindredBooks.NOTE));
    }

    /** "Returns how many entries are made": not cards, nor lines. */
    private static void readInCountsEntries() {
        KindredBooks books = new KindredBooks();
        CHECKS.same("one of three lines", read(books, 0, "t:a;t:b;t:c."), 1);
        CHECKS.same("one of two is known", read(books, 0, "t:a;t:b;t:c.t:d."), 1);
        CHECKS.same("all are known", read(books, 0, "t:d.t:a;t:b;t:c."), 0);
        CHECKS.same("three", read(books, 0, "t:e.t:f.t:g."), 3);
        CHECKS.same("changes", books.changes(), 4 + 2 + 6);
    }

    /** "a live entry of the book has lines that stand of just the same kinds and values": in whatever order. */
    private static void knownCardsInAnyOrder() {
        KindredBooks books = new KindredBooks();
        read(books, 0, "n:a;w:1;p:b;d:2000-01-01;t:c.");
        CHECKS.same("the other way round", read(books, 0, "t:c;d:2000-01-01;p:b;w:1;n:a."), 0);
        CHECKS.same("one less at the end", read(books, 0, "n:a;w:1;p:b;d:2000-01-01."), 1);
        CHECKS.same("one less at the front", read(books, 0, "w:1;p:b;d:2000-01-01;t:c."), 1);
        CHECKS.same("one more", read(books, 0, "n:a;w:1;p:b;d:2000-01-01;t:c;t:d."), 1);
        CHECKS.same("another one", read(books, 0, "n:a;w:1;p:b;d:2000-01-02;t:c."), 1);
        CHECKS.same("all again", read(books, 0, "n:a;w:1;p:b;d:2000-01-02;t:c.w:1;p:b;d:2000-01-01;t:c."), 0);
    }

    /** "each one as often". */
    private static void knownCardsEachAsOften() {
        KindredBooks books = new KindredBooks();
        read(books, 0, "t:a;t:a;t:b.");
        CHECKS.same("just as often", read(books, 0, "t:a;t:b;t:a."), 0);
        CHECKS.same("the other one twice", read(books, 0, "t:a;t:b;t:b."), 1);
        CHECKS.same("each once", read(books, 0, "t:a;t:b."), 1);
        CHECKS.same("three times", read(books, 0, "t:a;t:a;t:a."), 1);
        CHECKS.same("twice alone", read(books, 0, "t:a;t:a."), 1);
        CHECKS.same("twice and twice", read(books, 0, "t:a;t:a;t:b;t:b."), 1);
        CHECKS.same("all of these", read(books, 0, "t:b;t:a;t:b.t:b;t:a.t:a;t:a;t:a.t:a;t:a.t:b;t:b;t:a;t:a."), 0);
    }

    /** "of just the same kinds". */
    private static void knownCardsOfTheSameKinds() {
        KindredBooks books = new KindredBooks();
        read(books, 0, "n:york.");
        CHECKS.same("a PLACE", read(books, 0, "p:york."), 1);
        CHECKS.same("a WAY", read(books, 0, "w:york."), 1);
        CHECKS.same("a NOTE", read(books, 0, "t:york."), 1);
        CHECKS.same("each again", read(books, 0, "n:york.p:york.w:york.t:york."), 0);
    }

    /** "of just the same .. values": the PLAIN forms of NAMEs and PLACEs, the CALL forms of WAYs, the texts of others. */
    private static void knownCardsByValues() {
        KindredBooks books = new KindredBooks();
        read(books, 0, "n:Ann Lee.p:York-X.w:030 1.t:A note.d:2000-01-01.n:-.");
        CHECKS.same("a NAME", read(books, 0, "n:ann/LEE."), 0);
        CHECKS.same("a NAME of one word", read(books, 0, "n:annlee."), 1);
        CHECKS.same("a PLACE", read(books, 0, "p:  york x!."), 0);
        CHECKS.same("a WAY", read(books, 0, "w:+49 (30) 1."), 0);
        CHECKS.same("a WAY with 00", read(books, 0, "w:0049301."), 0);
        CHECKS.same("a NOTE", read(books, 0, "t:a note."), 1);
        CHECKS.same("a NOTE with a blank more", read(books, 0, "t:A note ."), 1);
        CHECKS.same("a DAY", read(books, 0, "d:2000-01-01.d:2000-01-02."), 1);
        CHECKS.same("a NAME without words", read(books, 0, "n:?!."), 0);
        books.setCountry(1);
        CHECKS.same("a WAY elsewhere", read(books, 0, "w:0049301."), 1);
        CHECKS.same("the WAY that was", read(books, 0, "w:+1 30 1."), 0);
    }

    /** "a live entry of the book has lines that stand": nothing that is gone or taken back; later lines, too. */
    private static void knownCardsOfLiveEntries() {
        KindredBooks books = new KindredBooks();
        read(books, 0, "t:a;t:b.");
        int back = books.back(0, 2);
        CHECKS.same("the line that is left", read(books, 0, "t:a."), 0);
        books.back(0, back);
        CHECKS.same("both again", read(books, 0, "t:a;t:b."), 0);
        int gone = books.gone(0, 0);
        CHECKS.same("of what is gone", read(books, 0, "t:a;t:b."), 1);
        books.back(0, gone);
        int entry = books.entry(0);
        CHECKS.same("an entry without lines is none of no card", read(books, 0, ""), 0);
        Checks.line(books, 0, entry, KindredBooks.NOTE, "z");
        CHECKS.same("made by line()", read(books, 0, "t:z."), 0);
        Checks.line(books, 0, entry, KindredBooks.NOTE, "y");
        CHECKS.same("with one more", read(books, 0, "t:z."), 1);
        CHECKS.same("as it is then", read(books, 0, "t:y;t:z."), 0);
    }

    /** "a live entry": its own lines, not those of its group. */
    private static void knownCardsOfOneEntry() {
        KindredBooks books = new KindredBooks();
        read(books, 0, "t:a.t:b.");
        books.join(0, 0, 2);
        CHECKS.same("one of the group", read(books, 0, "t:b."), 0);
        CHECKS.same("both of the group", read(books, 0, "t:a;t:b."), 1);
    }

    /** "of the book": not what other books know. */
    private static void knownCardsOfThatBook() {
        KindredBooks books = new KindredBooks();
        read(books, 0, "t:a.");
        CHECKS.same("in another book", read(books, 1, "t:a."), 1);
        books.hear(2, 0);
        CHECKS.same("where it was heard", read(books, 2, "t:a."), 0);
        books.back(2, 1);
        CHECKS.same("where its line is taken back", read(books, 2, "t:a."), 1);
        CHECKS.same("where that is not known", read(books, 0, "t:a."), 0);
    }

    /** "one behind the other": a card that comes twice in a paper is known at the second time. */
    private static void knownCardsOfThePaperItself() {
        KindredBooks books = new KindredBooks();
        CHECKS.same("twice and another one", read(books, 0, "t:a.t:a.t:b.t:a."), 2);
        CHECKS.same("changes", books.changes(), 4);
        CHECKS.same("in other words", read(books, 0, "n:X y.n:x-Y.n:xy."), 2);
    }

    /** Papers of 400 bytes: as many lines and cards as there can be. */
    private static void longestPapers() {
        StringBuilder cards = new StringBuilder();
        StringBuilder lines = new StringBuilder();
        for (int i = 0; i < 100; i++) {
            char sign = (char) (i < 50 ? 'A' + i : 'A' + i - 50);
            cards.append(i < 50 ? "t:" : "n:").append(sign == ';' || sign == ':' || sign == '.' ? '1' : sign).append('.');
            lines.append("t:").append(sign).append(i < 99 ? ';' : '.');
        }
        KindredBooks books = new KindredBooks();
        CHECKS.same("a card of 100 lines", read(books, 0, lines.toString()), 1);
        CHECKS.same("changes", books.changes(), 101);
        CHECKS.same("values", books.values(0, 0, KindredBooks.NOTE), 50);
        CHECKS.same("it is known", read(books, 0, lines.toString()), 0);
        KindredBooks others = new KindredBooks();
        Checks.type(others, cards.toString());
        CHECKS.same("100 cards make 200 changes", others.errorKind(), 0);
        int made = others.readIn(0);
        CHECKS.same("their entries", others.changes(), 2 * made);
        CHECKS.isTrue("more than fifty are made", made > 50);
        asModel(cards.substring(0, 399));
        asModel(lines.substring(0, 399) + ";");
        asModel("n".repeat(400));
        asModel("t:" + "a".repeat(398));
        asModel(":".repeat(400));
    }
}
