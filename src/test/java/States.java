/** States in which calls are refused. Each has a text typed that was not posted. */
final class States {
    private static final String LETTER_OF_1 = "l1 0 40 2 1 1 1 0 0 1;";

    private States() { }

    /** Nothing but a text. */
    static State.Steps fresh(String text) {
        return x -> Check.typed(x, text);
    }

    /**
     * Letters posted, carried in part, waiting, done and cancelled; one channel off; three things
     * SEEN; image 0 kept, image 1 not; more things done than can be undone. Channels 0 and 2 have a
     * PRESENT LETTER, 1 and 3 have none.
     */
    static State.Steps midway(String text) {
        return x -> {
            Check.post(x, "l1 3 50 2 1 1 1 0 0 0;l1 5 55 3 1 1 1 0 0 1;c1 3 2;");
            x.ticks(2);
            x.cancels(1);
            x.tunes(2, 1, 3);
            x.keep(0);
            Check.post(x, "l0 0 20 6-1 1 2 8-9 1;l2 9 30 3 1 1 1 0 0 0;l2 9 30 5 1 2 1 0 0 0;");
            x.switches(3);
            x.ticks(1);
            x.sees(1, 2);
            x.sees(3, 0);
            x.sees(40, TransferRings.NONE);
            Check.typed(x, text);
        };
    }

    /** The ring of channel 1 is full, six things are SEEN, both images are kept, six can be undone. */
    static State.Steps crowded(String text) {
        return x -> {
            Check.post(x, LETTER_OF_1.repeat(5), LETTER_OF_1);
            x.keep(0);
            x.tunes(1, 2, 1);
            x.tunes(3, 1, 1);
            x.switches(0);
            x.ticks(1);
            x.keep(1);
            x.tunes(3, 2, 8);
            x.tunes(3, 0, 8);
            for (int k = 1; k <= 6; k++) {
                x.sees(k, 1);
            }
            Check.typed(x, text);
        };
    }
}
