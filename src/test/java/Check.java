import java.io.IOException;
import java.nio.file.Files;
import java.nio.file.Path;

/** Collects what is not as due, and types texts. */
final class Check {
    private static final Path DOCUMENT = Path.of("../shared/DOC.md");

    private final String document;
    private int wrong = 0;
    private int looked = 0;
    private String about = "";

    Check() {
        document = read();
    }

    /** Null where there is no document: the answers can be looked at all the same. */
    private static String read() {
        try {
            return Files.readString(DOCUMENT);
        } catch (IOException e) {
            System.out.println("no document to hold the quoted words against: " + DOCUMENT);
            return null;
        }
    }

    void about(String promise) {
        about = promise;
    }

    /** What follows is about these words, which must stand in the document just so. */
    void words(String quoted) {
        about = "\"" + quoted + "\"";
        holds("these words stand in the document", document == null || document.contains(quoted));
    }

    void due(String call, long got, long want) {
        looked++;
        if (got != want) {
            wrong++;
            System.out.println(about + ": " + call + " answered " + got + ", due is " + want);
        }
    }

    void holds(String what, boolean so) {
        due(what + " (1: so)", so ? 1 : 0, 1);
    }

    void end(String test) {
        System.out.println(test + ": " + looked + " answers, " + wrong + " not as due");
        if (wrong != 0) {
            System.exit(1);
        }
    }

    static void typed(Rings x, String text) {
        for (int i = 0; i < text.length(); i++) {
            x.type(text.charAt(i));
        }
    }

    static int posted(Rings x, String text) {
        typed(x, text);
        return x.posts();
    }

    /** A new object into which a text is posted. */
    static Rings with(String... texts) {
        Rings x = new Rings();
        post(x, texts);
        return x;
    }

    /** Posts texts that must be taken: a refused one is the test's own fault. */
    static void post(Rings x, String... texts) {
        for (String text : texts) {
            int items = posted(x, text);
            if (items < 0) {
                throw new IllegalStateException("the test's own text is refused: " + text + " " + items);
            }
        }
    }
}
