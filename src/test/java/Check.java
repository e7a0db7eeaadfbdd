/** Collects what is not as due, and types texts. */
final class Check {
    private int wrong = 0;
    private int looked = 0;
    private String about = "";

    void about(String promise) {
        about = promise;
    }

    void due(String call, long got, long want) {
        looked++;
        if (got != want) {
            wrong++;
            System.out.println(about + ": " + call + " answered " + got + ", due is " + want);
        }
    }

    void end(String test) {
        System.out.println(test + ": " + looked + " answers, " + wrong + " not as due");
        if (wrong != 0) {
            System.exit(1);
        }
    }

    static void typed(TransferRings x, String text) {
        for (int i = 0; i < text.length(); i++) {
            x.type(text.charAt(i));
        }
    }

    static int posted(TransferRings x, String text) {
        typed(x, text);
        return x.posts();
    }

    /** A new object into which a text is posted. */
    static TransferRings with(String... texts) {
        TransferRings x = new TransferRings();
        for (String text : texts) {
            int items = posted(x, text);
            if (items < 0) {
                throw new IllegalStateException("the test's own text is refused: " + text + " " + items);
            }
        }
        return x;
    }
}
