import java.nio.charset.StandardCharsets;
import java.util.function.IntFunction;

/** What the tests share: a count of wrong answers, texts typed in, and calls that are to throw. */
final class Checks {
    /** A call, so that what it throws can be looked at. */
    interface Call {
        Object run();
    }

    static final String INDEX = "IndexOutOfBoundsException";
    static final String ARGUMENT = "IllegalArgumentException";
    static final String ELEMENT = "NoSuchElementException";
    static final String STATE = "IllegalStateException";

    private final String name;
    private int wrong;

    Checks(String name) {
        this.name = name;
    }

    void same(String what, long answer, long due) {
        if (answer != due) {
            tell(what + " answered " + answer + ", due is " + due);
        }
    }

    void same(String what, String answer, String due) {
        if (!answer.equals(due)) {
            tell(what + " answered \"" + answer + "\", due is \"" + due + "\"");
        }
    }

    void isTrue(String what, boolean answer) {
        if (!answer) {
            tell(what + " answered false, due is true");
        }
    }

    void isFalse(String what, boolean answer) {
        if (answer) {
            tell(what + " answered true, due is false");
        }
    }

    void throwsA(String what, String due, Call call) {
        same(what, outcome(call), due);
    }

    /** The name of the document's exception that a call throws, or its answer as a text. */
    static String outcome(Call call) {
        try {
            return String.valueOf(call.run());
        } catch (RuntimeException e) {
            return e.getClass().getSimpleName();
        }
    }

    void tell(String what) {
        wrong++;
        System.out.println(name + ": " + what);
    }

    /** Ends the test: exit code 1 if an answer was wrong. */
    void end() {
        System.out.println(name + ": " + (wrong == 0 ? "all answers are as due" : wrong + " answers are wrong"));
        if (wrong != 0) {
            System.exit(1);
        }
    }

    static void type(KindredBooks books, String text) {
        byte[] bytes = text.getBytes(StandardCharsets.ISO_8859_1);
        for (int i = 0; i < bytes.length; i += 8) {
            long packed = 0;
            for (int j = i; j < Math.min(i + 8, bytes.length); j++) {
                packed = (packed << 8) | (bytes[j] & 255);
            }
            books.type(packed);
        }
    }

    /** Makes a line with a text, and returns its number. */
    static int line(KindredBooks books, int book, int entry, int kind, String text) {
        books.clearText();
        type(books, text);
        return books.line(book, entry, kind);
    }

    /** Makes an entry with a NAME, and returns the number of the entry. */
    static int named(KindredBooks books, int book, String name) {
        int entry = books.entry(book);
        line(books, book, entry, KindredBooks.NAME, name);
        return entry;
    }

    static String form(KindredBooks books, int change, int form) {
        StringBuilder written = new StringBuilder();
        int length = books.write(change, form);
        for (int i = 0; i < length; i++) {
            written.append((char) books.pageAt(i));
        }
        return written.toString();
    }

    /** Fills the books up to 250 changes with entries of the last book. */
    static void fill(KindredBooks books) {
        fill(books, 250);
    }

    /** Fills the books up to a number of changes; of the 512 calls of an object each change takes one. */
    static void fill(KindredBooks books, int most) {
        for (int i = books.changes(); i < most; i++) {
            books.entry(2);
        }
    }

    /** What all books show, in a row, and the length of the text, which is emptied. */
    static String state(KindredBooks books) {
        StringBuilder all = new StringBuilder();
        int length = books.clearText();
        all.append(length).append(' ').append(books.changes());
        for (int book = 0; book < 3; book++) {
            all.append(' ').append(books.known(book)).append(' ').append(books.digest(book));
            all.append(' ').append(books.countShare(book)).append(' ').append(books.meanLines(book));
        }
        return all.toString();
    }

    /**
     * All that can be seen of an object without changing it, in some hundred calls: the length of the text, the
     * country, what counts and holds of the first changes, what the books show, the page, and the rows of answers.
     */
    static String look(KindredBooks books) {
        StringBuilder all = new StringBuilder();
        int country = books.setCountry(49);
        books.setCountry(country);
        int changes = books.changes();
        all.append("text ").append(books.type(0)).append(" country ").append(country).append(" changes ").append(changes);
        for (int book = 0; book < 3; book++) {
            int at = book;
            all.append("\nbook ").append(books.known(at)).append(' ').append(books.groups(at)).append(' ');
            all.append(books.digest(at)).append(' ').append(books.meanLines(at)).append(' ').append(books.countShare(at));
            for (int change = 0; change < Math.min(changes, 14); change++) {
                all.append(books.counts(at, change) ? " +" : " -");
            }
        }
        for (int change = 0; change < Math.min(changes, 14); change++) {
            all.append(books.holds(0, change) ? " holds" : " .");
        }
        all.append("\npage").append(row(i -> books.pageAt(i)));
        for (int i = 0; i < 3; i++) {
            int what = i;
            all.append("\nsuggested").append(row(place -> books.suggested(place, what)));
            all.append("\nyearly").append(row(place -> books.yearlyAt(place, what)));
        }
        all.append("\nfound").append(row(i -> books.found(i, true))).append(row(i -> books.found(i, false)));
        return all.toString();
    }

    /** What stands at each place of a row, up to the one that is not there. */
    private static String row(IntFunction<Integer> answers) {
        StringBuilder all = new StringBuilder();
        try {
            for (int i = 0; i < 50; i++) {
                all.append(' ').append(answers.apply(i));
            }
        } catch (IndexOutOfBoundsException e) {
            all.append(" end");
        }
        return all.toString();
    }
}
