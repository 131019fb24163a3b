import java.io.IOException;
import java.io.UncheckedIOException;
import java.nio.file.Files;
import java.nio.file.Path;

/** What the tests share: answers compared with those that are due, and posts told in letters. */
final class Due {
    private static final String DOCUMENT = "../shared/DOC.md";

    private final String about;
    private String sentence = "";
    private int wrong;
    private int compared;

    Due(String about) {
        this.about = about;
    }

    /** From here on it is about a sentence of the document, which must stand there word for word. */
    void about(String words) {
        sentence = "";
        isSo("the document says: " + words, Document.TEXT.contains(words));
        sentence = "[" + words + "] ";
    }

    void is(String call, long got, long want) {
        compared++;
        if (got != want) {
            wrong++;
            if (wrong <= 40) {
                System.out.println(about + ": " + sentence + call + " answered " + got + ", due is " + want);
            }
        }
    }

    void isSo(String what, boolean so) {
        is(what, so ? 1 : 0, 1);
    }

    boolean hasWrong() {
        return wrong > 0;
    }

    void end() {
        System.out.println(about + ": " + compared + " answers, " + wrong + " not as due");
        if (wrong > 0) {
            System.exit(1);
        }
    }

    static int post(MayReadPencil x, String text) {
        for (int i = 0; i < text.length(); i++) {
            x.feed(text.charAt(i));
        }
        return x.post();
    }

    /** A new object to which each of the posts has come. */
    static MayReadPencil with(String... posts) {
        MayReadPencil x = new MayReadPencil();
        for (String text : posts) {
            if (post(x, text) < 0) {
                throw new IllegalStateException("a test's own post has a fault: " + text);
            }
        }
        return x;
    }

    static MayReadPencil withRow(MayReadPencil x, int... numbers) {
        for (int number : numbers) {
            x.row(number);
        }
        return x;
    }

    /** One who knows the secrets from one to another (all of them told one by one). */
    static MayReadPencil told(MayReadPencil x, int person, int from, int to) {
        for (int secret = from; secret <= to; secret++) {
            x.tells(person, secret);
        }
        return x;
    }

    /** Read only where a test is about the document's own sentences. */
    private static final class Document {
        static final String TEXT = read();

        private static String read() {
            try {
                return Files.readString(Path.of(DOCUMENT));
            } catch (IOException e) {
                throw new UncheckedIOException(e);
            }
        }
    }
}
