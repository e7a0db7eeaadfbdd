/** Promises 5 to 9: ticks, cancels, switches, tunes, undo. */
public final class DoneTest {
    private static final Check CHECK = new Check();

    public static void main(String[] args) {
        ticksRefused();
        ticksCarry();
        ticksReadAsItIsByThen();
        ticksByRankAndInTurn();
        ticksWriteBack();
        ticksCountChained();
        ticksRoundTheRing();
        cancelsRefused();
        cancelsChain();
        cancelsWriteBackFirst();
        cancelsAllSix();
        switches();
        tunes();
        undoKinds();
        undoSix();
        undoLeavesTheRest();
        CHECK.end("DoneTest");
    }

    private static void due(String call, long got, long want) {
        CHECK.due(call, got, want);
    }

    private static void ticksRefused() {
        CHECK.about("promise 5, refused");
        Rings x = Check.with("l0 0 8 1 1 1 1 0 0 0;");
        due("ticks(0)", x.ticks(0), TransferRings.BAD);
        due("ticks(-1)", x.ticks(-1), TransferRings.BAD);
        due("ticks(41)", x.ticks(41), TransferRings.BAD);
        due("ticks(MIN)", x.ticks(Integer.MIN_VALUE), TransferRings.BAD);
        due("count(6)", x.count(6), 0);
        due("ticks(40)", x.ticks(40), 1);
        due("count(6)", x.count(6), 40);
    }

    private static void ticksCarry() {
        CHECK.about("promise 5, carry");
        // Rows of 3: from 10 12 14, 30 32 34; to 63 62 61, 2 1 0.
        Rings x = Check.with("l2 10 63 3 2-1 2 20 3 0;");
        due("ticks(1)", x.ticks(1), 1);
        due("at(63)", x.at(63), 10);
        due("at(62)", x.at(62), 12);
        due("at(61)", x.at(61), 14);
        due("at(2), the 4th UNIT", x.at(2), 30);
        due("at(1), not yet", x.at(1), 1);
        due("RESIDUE", x.channel(2, 5), 2);
        due("HEAD", x.channel(2, 4), 0);
        due("ticks(1)", x.ticks(1), 1);
        due("at(1)", x.at(1), 32);
        due("at(0)", x.at(0), 34);
        due("HEAD", x.channel(2, 4), 1);
        due("GRANTED twice", x.channel(2, 7), 2);
        due("no TRANSFER yet", x.channel(2, 6), 0);
        due("ticks(3) without a grant", x.ticks(3), 0);
        due("a TRANSFER", x.channel(2, 6), 1);
        due("GRANTED last stays", x.count(2), 2);
    }

    private static void ticksReadAsItIsByThen() {
        CHECK.about("promise 5, each reads its BYTE as it is by then");
        Rings x = Check.with("f0 77;l0 0 1 5 1 1 1 0 0 0;");
        x.ticks(1);
        due("at(4)", x.at(4), 77);
        due("at(5)", x.at(5), 5);
        x.ticks(1);
        due("at(5)", x.at(5), 77);
        due("at(6)", x.at(6), 6);
        Rings back = Check.with("l0 4 5 5-1-1 1 0 0 0;");
        back.ticks(2);
        due("at(5), carried backwards", back.at(5), 4);
        due("at(1), carried backwards", back.at(1), 0);
    }

    private static void ticksByRankAndInTurn() {
        CHECK.about("promise 5, who is GRANTED");
        Rings x = Check.with("l0 0 8 8 0 0 1 0 0 0;l1 0 8 8 0 0 1 0 0 0;l3 0 8 8 0 0 1 0 0 0;",
                "c0 0 1;c1 0 1;c3 0 1;");
        int[] turn = {0, 1, 3, 0, 1, 3};
        for (int want : turn) {
            due("ticks(1)", x.ticks(1), 1);
            due("count(2)", x.count(2), want);
        }
        x.tunes(1, 1, 1);
        x.tunes(0, 1, 1);
        int[] ranked = {0, 1, 0, 1};
        for (int want : ranked) {
            x.ticks(1);
            due("count(2), by RANK", x.count(2), want);
        }
        x.tunes(3, 2, 1);
        x.ticks(1);
        due("count(2), the greatest RANK", x.count(2), 3);
        x.ticks(1);
        due("count(2), the greatest RANK again", x.count(2), 3);
        x.switches(3);
        x.ticks(1);
        due("count(2), 0 behind 3", x.count(2), 0);
        due("how often 0", x.channel(0, 7), 5);
        due("how often 1", x.channel(1, 7), 4);
        due("how often 2", x.channel(2, 7), 0);
        due("how often 3", x.channel(3, 7), 4);
    }

    private static void ticksWriteBack() {
        CHECK.about("promise 5, written back");
        Rings x = Check.with("l0 0 8 4 1 1 1 0 0 0;l0 0 8 4 1 1 1 0 0 0;");
        x.ticks(1);
        due("waiting(0)", x.waiting(0), 0);
        due("OWNER while it WAITS", x.slot(0, 0, 0), 1);
        due("STATUS while it WAITS", x.slot(0, 0, 1), 0);
        due("RESIDUE while it WAITS", x.slot(0, 0, 2), 0);
        x.ticks(1);
        due("OWNER", x.slot(0, 0, 0), 0);
        due("STATUS", x.slot(0, 0, 1), 1);
        due("WAITS", x.slot(0, 0, 5), 0);
        due("the next WAITS", x.waiting(0), 1);
        due("TRANSFERS", x.channel(0, 6), 1);
        x.switches(0);
        x.ticks(1);
        due("an off CHANNEL's LETTER is written back", x.slot(0, 1, 1), 1);
        due("TRANSFERS", x.channel(0, 6), 2);
        due("none WAITS", x.count(1), 0);
    }

    private static void ticksCountChained() {
        CHECK.about("promise 5, chained");
        Rings x = Check.with("l0 0 8 1 1 1 1 0 0 1;l0 0 8 1 1 1 1 0 0 1;l0 0 8 1 1 1 1 0 0 0;");
        due("ticks(10)", x.ticks(10), 3);
        due("TRANSFERS: one for the chain", x.channel(0, 6), 1);
        due("STATUS of a CHAINED one", x.slot(0, 1, 1), 1);
    }

    private static void ticksRoundTheRing() {
        CHECK.about("promise 5, round the ring");
        String letter = "l0 0 8 1 1 1 1 0 0 0;";
        Rings x = Check.with(letter.repeat(5), letter);
        due("ticks(5)", x.ticks(5), 5);
        due("HEAD", x.channel(0, 4), 5);
        due("ticks(2)", x.ticks(2), 1);
        due("HEAD is 0 behind 5", x.channel(0, 4), 0);
        due("all are the HOST's", x.count(0), 0);
        due("posts", Check.posted(x, "l0 0 8 2 1 1 1 0 0 1;"), 1);
        due("a done LETTER's SLOT is taken anew", x.slot(0, 0, 3), 2);
        due("ticks(1)", x.ticks(1), 1);
        due("waiting(0)", x.waiting(0), 0);
    }

    private static void cancelsRefused() {
        CHECK.about("promise 6, refused");
        Rings x = Check.with("l0 0 8 1 1 1 1 0 0 0;");
        x.ticks(1);
        due("cancels(-1)", x.cancels(-1), TransferRings.BAD);
        due("cancels(4)", x.cancels(4), TransferRings.BAD);
        due("no LETTER", x.cancels(1), TransferRings.STATE);
        due("one that WAITS is not PRESENT", x.cancels(0), TransferRings.STATE);
        due("it WAITS still", x.waiting(0), 0);
    }

    private static void cancelsChain() {
        CHECK.about("promise 6, the chain");
        Rings x = Check.with("l1 0 8 7 1 1 1 0 0 1;l1 0 8 2 1 1 3 0 0 0;l1 0 8 5 1 1 1 0 0 1;");
        x.ticks(1);
        due("cancels(1)", x.cancels(1), 3 + 6);
        due("STATUS", x.slot(1, 0, 1), 2);
        due("OWNER", x.slot(1, 0, 0), 0);
        due("RESIDUE stays", x.slot(1, 0, 2), 3);
        due("STATUS of the next", x.slot(1, 1, 1), 2);
        due("OWNER behind the chain", x.slot(1, 2, 0), 1);
        due("HEAD", x.channel(1, 4), 2);
        due("POST stays", x.channel(1, 3), 3);
        due("TRANSFERS", x.channel(1, 6), 0);
        x.switches(1);
        due("an off CHANNEL; the chain ends where no LETTER is", x.cancels(1), 5);
        due("HEAD", x.channel(1, 4), 3);
        due("none left", x.cancels(1), TransferRings.STATE);
        due("lands", x.lands(8), 0);
        due("posts behind", Check.posted(x, "l1 0 8 1 1 1 1 0 0 0;"), 1);
        due("PRESENT", x.channel(1, 5), 1);
    }

    private static void cancelsWriteBackFirst() {
        CHECK.about("promise 6, written back first");
        Rings x = Check.with("l1 0 8 4 1 1 1 0 0 0;l1 0 8 5 1 1 1 0 0 0;l2 0 8 4 1 1 1 0 0 0;");
        x.ticks(1);
        due("waiting(0)", x.waiting(0), 8);
        due("cancels(2), 1's LETTER goes on waiting", x.cancels(2), 4);
        due("waiting(0)", x.waiting(0), 8);
        due("cancels(1)", x.cancels(1), 5);
        due("none WAITS", x.count(1), 0);
        due("STATUS of the one that WAITED", x.slot(1, 0, 1), 1);
        due("STATUS of the cancelled one", x.slot(1, 1, 1), 2);
        due("TRANSFERS", x.channel(1, 6), 1);
        Rings chained = Check.with("l1 0 8 4 1 1 1 0 0 1;l1 0 8 5 1 1 1 0 0 0;");
        chained.ticks(1);
        due("cancels(1)", chained.cancels(1), 5);
        due("TRANSFERS of a CHAINED one", chained.channel(1, 6), 0);
    }

    private static void cancelsAllSix() {
        CHECK.about("promise 6, all six");
        String letter = "l3 0 8 2 1 1 1 0 0 1;";
        Rings x = Check.with(letter.repeat(5), letter);
        due("cancels(3)", x.cancels(3), 12);
        due("HEAD", x.channel(3, 4), 0);
        due("all are the HOST's", x.count(0), 0);
        Rings y = Check.with(letter.repeat(5), letter);
        y.ticks(1);
        due("SLOT 0 WAITS: it is written back, not cancelled", y.cancels(3), 10);
        due("STATUS of SLOT 0", y.slot(3, 0, 1), 1);
        due("HEAD", y.channel(3, 4), 0);
    }

    private static void switches() {
        CHECK.about("promise 7");
        Rings x = Check.with("l0 0 8 4 1 1 1 0 0 0;");
        due("switches(-1)", x.switches(-1), TransferRings.BAD);
        due("switches(4)", x.switches(4), TransferRings.BAD);
        due("READY", x.channel(0, 8), 1);
        due("switches(0)", x.switches(0), 0);
        due("ON", x.channel(0, 0), 0);
        due("READY", x.channel(0, 8), 0);
        due("PRESENT still", x.channel(0, 5), 4);
        due("ticks(3)", x.ticks(3), 0);
        due("switches(0)", x.switches(0), 1);
        due("ON", x.channel(0, 0), 1);
        due("others are ON", x.channel(1, 0), 1);
        due("ticks(3)", x.ticks(3), 1);
        due("count(5)", x.count(5), 5);
    }

    private static void tunes() {
        CHECK.about("promise 8");
        Rings x = new Rings();
        int[][] bad = {{-1, 1, 1}, {4, 1, 1}, {0, -1, 1}, {0, 4, 1}, {0, 1, 0}, {0, 1, 9}, {0, 1, -1}};
        for (int[] b : bad) {
            due("tunes(" + b[0] + ", " + b[1] + ", " + b[2] + ")", x.tunes(b[0], b[1], b[2]), TransferRings.BAD);
        }
        due("they are that", x.tunes(0, 0, 4), TransferRings.STATE);
        due("count(5)", x.count(5), 0);
        due("RANK alone differs", x.tunes(0, 3, 4), 1);
        due("BURST alone differs", x.tunes(0, 3, 8), 1);
        due("they are that", x.tunes(0, 3, 8), TransferRings.STATE);
        due("least", x.tunes(0, 0, 1), 1);
        due("RANK", x.channel(0, 1), 0);
        due("BURST", x.channel(0, 2), 1);
        due("of another", x.channel(1, 2), 4);
        due("count(5)", x.count(5), 3);
    }

    private static void undoKinds() {
        CHECK.about("promise 9, kinds");
        for (int left = 5; left >= 0; left--) {
            int stay = left;
            CHECK.holds("as ahead of it, " + stay, State.enginesAlike(x -> doneUpTo(x, stay), x -> {
                doneUpTo(x, 6);
                for (int i = 5; i >= stay; i--) {
                    due("undo", x.undo(), i);
                }
            }));
        }
        Rings x = new Rings();
        doneUpTo(x, 6);
        for (int i = 5; i >= 0; i--) {
            due("undo", x.undo(), i);
        }
        due("undo", x.undo(), TransferRings.STATE);
    }

    /** The first so many of six things done, all kinds of them, behind two that are lost then. */
    private static void doneUpTo(Rings x, int many) {
        Check.post(x, "l0 0 8 4 1 1 1 0 0 1;l0 3 9 6 1 1 2 1 1 0;f8 200;");
        x.ticks(2);
        State.Steps[] all = {y -> y.posts(), y -> Check.post(y, "f1 99;c0 1 2;l3 0 0 1 1 1 1 0 0 0;"), y -> y.ticks(3),
            y -> y.cancels(0), y -> y.switches(2), y -> y.tunes(1, 3, 3)};
        for (int i = 0; i < many; i++) {
            all[i].in(x);
        }
    }

    private static void undoSix() {
        CHECK.about("promise 9, six are known");
        Rings x = new Rings();
        due("STATE at first", x.undo(), TransferRings.STATE);
        for (int i = 1; i <= 9; i++) {
            due("ticks(1) without a grant", x.ticks(1), 0);
            due("count(5)", x.count(5), Math.min(i, 6));
        }
        due("undo", x.undo(), 5);
        due("count(6)", x.count(6), 8);
        x.ticks(2);
        due("count(5)", x.count(5), 6);
        for (int i = 5; i >= 0; i--) {
            due("undo", x.undo(), i);
        }
        due("count(6)", x.count(6), 3);
        due("older ones are lost", x.undo(), TransferRings.STATE);
        due("refused ones are not known", x.ticks(41) + x.cancels(0) + x.tunes(0, 0, 4) + x.switches(9), -6);
        due("undo", x.undo(), TransferRings.STATE);
    }

    private static void undoLeavesTheRest() {
        CHECK.about("promise 9, the rest");
        Rings x = new Rings();
        x.ticks(1);
        x.keep(0);
        x.ticks(2);
        x.sees(3, 1);
        Check.typed(x, "f1 ");
        due("undo", x.undo(), 1);
        due("THE TEXT stays", x.count(4), 3);
        due("SEEN stays", x.count(3), 1);
        due("the IMAGE stays", x.back(0), 0);
        due("count(6)", x.count(6), 1);
        Check.typed(x, "2;");
        due("posts", x.posts(), 1);
        due("undo", x.undo(), 0);
        due("THE TEXT does not come back", x.count(4), 0);
        due("at(1)", x.at(1), 1);
    }
}
