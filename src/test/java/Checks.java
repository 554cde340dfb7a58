import java.nio.charset.StandardCharsets;
import java.util.NoSuchElementException;

/** What the tests share: a count of wrong answers, texts typed in, and calls that are to throw. */
final class Checks {
    /** A call, so that what it throws can be looked at. */
    interface Call {
        Object run();
    }

    static final String INDEX = "IndexOutOfBoundsException";
    static final String ARGUMENT = "IllegalArgumentException";
    static final String ELEMENT = "NoSuchElementException";
    static final String STATE = "IllegalStateException";

    private final String name;
    private int wrong;

    Checks(String name) {
        this.name = name;
    }

    void same(String what, long answer, long due) {
        if (answer != due) {
            tell(what + " answered " + answer + ", due is " + due);
        }
    }

    void same(String what, String answer, String due) {
        if (!answer.equals(due)) {
            tell(what + " answered \"" + answer + "\", due is \"" + due + "\"");
        }
    }

    void isTrue(String what, boolean answer) {
        if (!answer) {
            tell(what + " answered false, due is true");
        }
    }

    void isFalse(String what, boolean answer) {
        if (answer) {
            tell(what + " answered true, due is false");
        }
    }

    void throwsA(String what, String due, Call call) {
        same(what, outcome(call), due);
    }

    /** The name of the document's exception that a call throws, or its answer as a text. */
    static String outcome(Call call) {
        try {
            return String.valueOf(call.run());
        } catch (RuntimeException e) {
            return e.getClass().getSimpleName();
        }
    }

    void tell(String what) {
        wrong++;
        System.out.println(name + ": " + what);
    }

    /** Ends the test: exit code 1 if an answer was wrong. */
    void end() {
        System.out.println(name + ": " + (wrong == 0 ? "all answers are as due" : wrong + " answers are wrong"));
        if (wrong != 0) {
            System.exit(1);
        }
    }

    static void type(KindredBooks books, String text) {
        byte[] bytes = text.getBytes(StandardCharsets.ISO_8859_1);
        for (int i = 0; i < bytes.length; i += 8) {
            long packed = 0;
            for (int j = i; j < Math.min(i + 8, bytes.length); j++) {
                packed = (packed << 8) | (bytes[j] & 255);
            }
            books.type(packed);
        }
    }

    /** Makes a line with a text, and returns its number. */
    static int line(KindredBooks books, int book, int entry, int kind, String text) {
        books.clearText();
        type(books, text);
        return books.line(book, entry, kind);
    }

    /** Makes an entry with a NAME, and returns the number of the entry. */
    static int named(KindredBooks books, int book, String name) {
        int entry = books.entry(book);
        line(books, book, entry, KindredBooks.NAME, name);
        return entry;
    }

    static String form(KindredBooks books, int change, int form) {
        StringBuilder written = new StringBuilder();
        int length = books.write(change, form);
        for (int i = 0; i < length; i++) {
            written.append((char) books.pageAt(i));
        }
        return written.toString();
    }

    /** Fills the books up to 250 changes with entries of the last book. */
    static void fill(KindredBooks books) {
        while (books.changes() < 250) {
            books.entry(2);
        }
    }

    /** What all books show, in a row: a call that throws must leave it as it is. */
    static String state(KindredBooks books) {
        StringBuilder all = new StringBuilder();
        int length = books.clearText();
        all.append(length).append(' ').append(books.changes());
        for (int book = 0; book < 3; book++) {
            all.append(' ').append(books.known(book)).append(' ').append(books.digest(book));
            all.append(' ').append(books.countShare(book)).append(' ').append(books.meanLines(book));
        }
        return all.toString();
    }
}
