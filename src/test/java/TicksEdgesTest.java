/** The edges that the document's part 2 names of POSTED, PRESENT, READY and a TICK. Each test quotes its words. */
public final class TicksEdgesTest {
    private static final Check CHECK = new Check();

    public static void main(String[] args) {
        itemByItem();
        inPlaceOfOneThatWasThere();
        behind5Comes0();
        fullOfTheEngines();
        fullByTheTextItself();
        nothingOfAllOfItIsDone();
        presentOrNone();
        readyOrNot();
        fewerThan4Wait();
        writtenBackFirst();
        oneTransferMore();
        noneWaits();
        theGreatestRank();
        theFirstBehind();
        lastGrantedAtFirst();
        theLesser();
        asItIsByThen();
        ifItIs0Then();
        noneIsReady();
        CHECK.end("TicksEdgesTest");
    }

    private static void due(String call, long got, long want) {
        CHECK.due(call, got, want);
    }

    private static String letter(int channel, int units, int chained) {
        return "l" + channel + " 0 32 " + units + " 1 1 1 0 0 " + chained + ";";
    }

    private static void slot(Rings x, int channel, int slot, int... want) {
        for (int what = 0; what < want.length; what++) {
            due("slot(" + channel + ", " + slot + ", " + what + ")", x.slot(channel, slot, what), want[what]);
        }
    }

    private static void itemByItem() {
        CHECK.words("POSTED: a text without a FAULT is gone through, ITEM by ITEM.");
        Rings x = Check.with("f0 1;c1 1 1;" + letter(1, 1, 0) + "f0 2;c1 3 8;" + letter(1, 2, 0) + letter(1, 3, 0) + "f0 3;c1 2 7;");
        due("at(0), the last of three", x.at(0), 3);
        due("RANK, the last of three", x.channel(1, 1), 2);
        due("BURST, the last of three", x.channel(1, 2), 7);
        for (int s = 0; s <= 2; s++) {
            due("UNITS, SLOT " + s, x.slot(1, s, 3), s + 1);
        }
        // All of it is one thing DONE, and no TICK goes by.
        due("count(5)", x.count(5), 1);
        due("count(6)", x.count(6), 0);
        due("undo", x.undo(), 0);
        due("at(0)", x.at(0), 0);
        due("POST", x.channel(1, 3), 0);
    }

    private static void inPlaceOfOneThatWasThere() {
        CHECK.words("A LETTER comes into the SLOT that its CHANNEL's POST tells, in place of one that was there, as the ENGINE's, posted, RESIDUE all UNITS, it does not WAIT");
        Rings x = Check.with(letter(2, 9, 1) + letter(2, 9, 0) + letter(2, 9, 1), letter(2, 9, 0) + letter(2, 1, 0) + letter(2, 1, 0));
        // SLOT 0 is done, 1 was cancelled in part; 2 to 5 are the ENGINE's still.
        x.ticks(4);
        due("cancels(2)", x.cancels(2), 5);
        slot(x, 2, 0, 0, 1, 0, 9, 1, 0);
        slot(x, 2, 1, 0, 2, 5, 9, 0, 0);
        due("in place of both", Check.posted(x, "l2 3 4 5 6 7 2 8 9 0;l2 9 8 7 6 5 2 4 3 1;"), 2);
        slot(x, 2, 0, 1, 0, 10, 10, 0, 0);
        slot(x, 2, 1, 1, 0, 14, 14, 1, 0);
        due("from, SLOT 0", x.unit(2, 0, 9, 0), 3 + 8 + 24);
        due("to, SLOT 0", x.unit(2, 0, 9, 1), 4 + 9 + 28);
        due("from, SLOT 1", x.unit(2, 1, 13, 0), 9 + 4 + 36);
        due("to, SLOT 1", x.unit(2, 1, 13, 1), 8 + 3 + 30);
        slot(x, 2, 2, 1, 0, 9, 9, 1, 0);
        due("HEAD", x.channel(2, 4), 2);
        due("POST", x.channel(2, 3), 2);
    }

    private static void behind5Comes0() {
        CHECK.words("POST is the next SLOT then (behind 5 comes 0)");
        for (int c = 0; c <= 3; c++) {
            Rings x = new Rings();
            for (int i = 1; i <= 6; i++) {
                Check.post(x, letter(c, 1, 0));
                due("POST of " + c, x.channel(c, 3), i % 6);
                due("POST of another", x.channel((c + 1) % 4, 3), 0);
                slot(x, c, i - 1, 1, 0, 1);
            }
            due("a seventh", Check.posted(x, letter(c, 1, 0)), TransferRings.FULL);
            due("POST of " + c, x.channel(c, 3), 0);
        }
    }

    private static void fullOfTheEngines() {
        CHECK.words("If that SLOT's LETTER is the ENGINE's (as it is by then), the text is FULL");
        Rings x = Check.with(letter(1, 3, 0).repeat(5), letter(1, 3, 0));
        due("six are the ENGINE's", Check.posted(x, letter(1, 1, 0)), TransferRings.FULL);
        due("SLOT 0 WAITS", x.ticks(1) + x.slot(1, 0, 5), 2);
        due("one that WAITS is the ENGINE's", x.posts(), TransferRings.FULL);
        x.ticks(1);
        due("it is the HOST's", x.slot(1, 0, 0), 0);
        due("the text that stayed", x.posts(), 1);
        due("SLOT 1 is not free", Check.posted(x, letter(1, 1, 0)), TransferRings.FULL);
        due("cancelled", x.cancels(1), 3);
        due("SLOT 1 was WRITTEN BACK, SLOT 2 cancelled", x.posts(), 1);
        due("SLOT 2", Check.posted(x, letter(1, 1, 0)), 1);
        due("SLOT 3 is not free", Check.posted(x, letter(1, 1, 0)), TransferRings.FULL);
        x.clear();
        for (int c = 0; c <= 3; c++) {
            due("CHANNEL " + c, Check.posted(x, letter(c, 1, 0)), c == 1 ? TransferRings.FULL : 1);
            x.clear();
        }
    }

    private static void fullByTheTextItself() {
        CHECK.words("(as it is by then)");
        String one = letter(3, 1, 0);
        int[] there = {1, 2, 3, 4, 5, 6};
        for (int many : there) {
            for (int more = 0; more <= 5; more++) {
                Rings x = new Rings();
                for (int i = 0; i < many; i++) {
                    Check.post(x, one);
                }
                boolean room = many + more <= 6;
                due(more + " to " + many, Check.posted(x, one.repeat(more)), room ? more : TransferRings.FULL);
                due("POST", x.channel(3, 3), (room ? many + more : many) % 6);
                due("the ENGINE's", x.count(0), room ? many + more : many);
                due("THE TEXT", x.count(4), room ? 0 : more * one.length());
            }
        }
    }

    private static void nothingOfAllOfItIsDone() {
        CHECK.words("then nothing of all of it is done.");
        String one = letter(1, 1, 0);
        String[] texts = {one, one + "f0 9;", "f0 9;c0 3 8;" + one, "f0 9;" + letter(0, 2, 1) + one + letter(2, 2, 1) + "c1 0 8;"};
        for (String text : texts) {
            new State(States.crowded(text)).leaves(CHECK, "posts of \"" + text + "\"", Rings::posts, TransferRings.FULL);
        }
        // Five of the six are there, two come: the first of them is not done, either.
        State.Steps five = x -> {
            Check.post(x, one.repeat(5));
            x.keep(1);
            Check.typed(x, "f1 7;" + one + one);
        };
        new State(five).leaves(CHECK, "posts of one too many", Rings::posts, TransferRings.FULL);
        new State(States.crowded(one + "x")).leaves(CHECK, "posts, a FAULT behind", Rings::posts, -10 - one.length());
    }

    private static void presentOrNone() {
        CHECK.words("The PRESENT LETTER of a CHANNEL: that of the SLOT that HEAD tells, if it is the ENGINE's and does not WAIT; else there is none.");
        Rings x = new Rings();
        due("no LETTER", x.channel(0, 5), 0);
        due("cancels(0)", x.cancels(0), TransferRings.STATE);
        Check.post(x, letter(0, 5, 0));
        due("posted", x.channel(0, 5), 5);
        x.ticks(1);
        due("carried in part", x.channel(0, 5), 1);
        x.switches(0);
        due("off: it is PRESENT all the same", x.channel(0, 5), 1);
        x.switches(0);
        x.ticks(1);
        due("it WAITS", x.slot(0, 0, 5), 1);
        due("one that WAITS", x.channel(0, 5), 0);
        due("cancels(0)", x.cancels(0), TransferRings.STATE);
        Check.post(x, letter(0, 2, 0) + letter(0, 3, 0));
        due("the next, while one WAITS", x.channel(0, 5), 2);
        x.ticks(1);
        due("the one behind", x.channel(0, 5), 3);
        due("cancels(0)", x.cancels(0), 3);
        due("cancelled: the HOST's", x.channel(0, 5), 0);
        due("cancels(0)", x.cancels(0), TransferRings.STATE);
    }

    private static void readyOrNot() {
        CHECK.words("A CHANNEL is READY, if it is ON, has a PRESENT LETTER");
        for (int c = 0; c <= 3; c++) {
            Rings x = new Rings();
            due("ON, none PRESENT", x.channel(c, 8), 0);
            x.switches(c);
            due("off, none PRESENT", x.channel(c, 8), 0);
            Check.post(x, letter(c, 4, 0) + letter(c, 5, 0));
            due("off, one PRESENT", x.channel(c, 8), 0);
            due("ticks(40), off", x.ticks(40), 0);
            x.switches(c);
            due("ON, one PRESENT", x.channel(c, 8), 1);
            due("another CHANNEL", x.channel((c + 1) % 4, 8), 0);
            x.ticks(1);
            due("one WAITS, the next is PRESENT", x.channel(c, 8), 1);
            x.ticks(2);
            due("the last WAITS", x.channel(c, 8), 0);
            x.ticks(1);
            due("all are done", x.channel(c, 8), 0);
        }
    }

    /**
     * By TICKS no more than one ever WAITS (one is WRITTEN BACK ahead of the one grant that may end
     * one more), so that nobody is held back: not where every grant ends a LETTER, either.
     */
    private static void fewerThan4Wait() {
        CHECK.words("(fewer than 4 LETTERS of all CHANNELS WAIT, or its RESIDUE is above BURST)");
        StringBuilder one = new StringBuilder();
        for (int c = 0; c <= 3; c++) {
            one.append(letter(c, 1, 0));
        }
        Rings x = Check.with(one.toString(), one.toString(), one.toString());
        for (int tick = 1; tick <= 12; tick++) {
            for (int c = 0; c <= 3; c++) {
                due("READY, " + c + " ahead of TICK " + tick, x.channel(c, 8), tick <= 8 + c + 1 ? 1 : 0);
            }
            due("ticks(1)", x.ticks(1), 1);
            due("how many WAIT", x.count(1), 1);
            due("which", x.waiting(0), 8 * ((tick - 1) % 4) + (tick - 1) / 4);
            due("no second", x.waiting(1), TransferRings.NONE);
        }
        due("ticks(1)", x.ticks(1), 0);
        due("how many WAIT", x.count(1), 0);
    }

    private static void writtenBackFirst() {
        CHECK.words("first, of the LETTERS that WAIT the one that has WAITED longest is WRITTEN BACK: it is the HOST's, done, does not WAIT");
        Rings x = Check.with(letter(0, 4, 0) + letter(1, 4, 0));
        x.ticks(1);
        slot(x, 0, 0, 1, 0, 0, 4, 0, 1);
        slot(x, 1, 0, 1, 0, 4, 4, 0, 0);
        due("count(1)", x.count(1), 1);
        x.ticks(1);
        // First the one of 0, then the grant by which that of 1 WAITS.
        slot(x, 0, 0, 0, 1, 0, 4, 0, 0);
        slot(x, 1, 0, 1, 0, 0, 4, 0, 1);
        due("waiting(0)", x.waiting(0), 8);
        due("count(1)", x.count(1), 1);
        x.ticks(1);
        slot(x, 1, 0, 0, 1, 0, 4, 0, 0);
        due("waiting(0)", x.waiting(0), TransferRings.NONE);
        // In one TICK with a grant the SLOT comes free, not only in one without.
        Rings y = Check.with(letter(0, 1, 0).repeat(5), letter(0, 1, 0));
        y.ticks(2);
        due("SLOT 0 is free", Check.posted(y, letter(0, 1, 0)), 1);
    }

    private static void oneTransferMore() {
        CHECK.words("if it is not CHAINED, its CHANNEL has one TRANSFER more.");
        Rings x = Check.with(letter(0, 1, 1) + letter(0, 1, 0) + letter(3, 1, 0) + letter(0, 1, 1));
        // 0 and 3 in turn: 0 (CHAINED), 3, 0, 0 (CHAINED).
        int[][] transfers = {{0, 0}, {0, 0}, {0, 1}, {1, 1}, {1, 1}, {1, 1}};
        for (int[] want : transfers) {
            x.ticks(1);
            due("TRANSFERS of 0", x.channel(0, 6), want[0]);
            due("TRANSFERS of 3", x.channel(3, 6), want[1]);
            due("TRANSFERS of 1", x.channel(1, 6), 0);
        }
        due("all are done", x.count(0), 0);
    }

    private static void noneWaits() {
        CHECK.words("(If none WAITS, nothing.)");
        Rings x = Check.with(letter(0, 9, 0));
        x.ticks(1);
        slot(x, 0, 0, 1, 0, 5, 9, 0, 0);
        due("TRANSFERS", x.channel(0, 6), 0);
        Rings y = new Rings();
        y.ticks(40);
        for (int c = 0; c <= 3; c++) {
            due("TRANSFERS", y.channel(c, 6), 0);
            due("SLOT 0", y.slot(c, 0, 0), TransferRings.NONE);
        }
    }

    private static void theGreatestRank() {
        CHECK.words("Then of the READY CHANNELS one of the greatest RANK is GRANTED");
        for (int ranks = 0; ranks < 256; ranks++) {
            Rings x = Check.with(letter(0, 1, 0) + letter(1, 1, 0) + letter(2, 1, 0) + letter(3, 1, 0));
            int want = 0;
            for (int c = 0; c <= 3; c++) {
                int rank = ranks >> 2 * c & 3;
                want = rank > (ranks >> 2 * want & 3) ? c : want;
                x.tunes(c, rank, 8);
            }
            due("granted(1), ranks " + ranks, x.granted(1), want);
            x.ticks(1);
            due("count(2), ranks " + ranks, x.count(2), want);
            due("GRANTED once, ranks " + ranks, x.channel(want, 7), 1);
        }
        // One that is off, or has no LETTER, does not hold back the others by its RANK.
        Rings y = Check.with(letter(0, 1, 0) + letter(1, 1, 0) + "c0 0 8;c1 3 8;c2 3 8;");
        y.switches(1);
        due("granted(1)", y.granted(1), 0);
    }

    private static void theFirstBehind() {
        CHECK.words("of several the first behind the one that was GRANTED last (1 behind 0, .., 0 behind 3");
        for (int last = 0; last <= 3; last++) {
            for (int ready = 1; ready <= 15; ready++) {
                Rings x = Check.with(letter(last, 1, 0));
                x.ticks(2);
                due("GRANTED last", x.count(2), last);
                int want = TransferRings.NONE;
                for (int behind = 4; behind >= 1; behind--) {
                    int c = (last + behind) % 4;
                    if ((ready >> c & 1) == 1) {
                        Check.post(x, letter(c, 5, 0));
                        want = c;
                    }
                }
                due("granted(1), last " + last + ", ready " + ready, x.granted(1), want);
                x.ticks(1);
                due("count(2), last " + last + ", ready " + ready, x.count(2), want);
            }
        }
    }

    private static void lastGrantedAtFirst() {
        CHECK.words("3 was GRANTED last at first)");
        due("count(2)", new Rings().count(2), 3);
        for (int ready = 1; ready <= 15; ready++) {
            Rings x = new Rings();
            for (int c = 3; c >= 0; c--) {
                if ((ready >> c & 1) == 1) {
                    Check.post(x, letter(c, 5, 0));
                }
            }
            due("granted(1), ready " + ready, x.granted(1), Integer.numberOfTrailingZeros(ready));
        }
        Rings turn = Check.with(letter(0, 9, 0) + letter(1, 9, 0) + letter(2, 9, 0) + letter(3, 9, 0));
        for (int tick = 1; tick <= 12; tick++) {
            due("granted(" + tick + ")", turn.granted(tick), (tick - 1) % 4);
        }
        due("granted(13)", turn.granted(13), TransferRings.NONE);
    }

    private static void theLesser() {
        CHECK.words("so many next UNITS of its PRESENT LETTER as BURST and RESIDUE tell, the lesser, are carried");
        for (int burst = 1; burst <= 8; burst++) {
            for (int units = 1; units <= 16; units++) {
                Rings x = Check.with("c1 0 " + burst + ";" + letter(1, units, 0));
                int gone = 0;
                for (int tick = 1; gone < units; tick++) {
                    due("ticks(1)", x.ticks(1), 1);
                    gone = Math.min(units, tick * burst);
                    String name = "BURST " + burst + " of " + units + ", " + gone + " gone: ";
                    due(name + "RESIDUE", x.slot(1, 0, 2), units - gone);
                    due(name + "the last that was carried", x.at(32 + gone - 1), gone - 1);
                    due(name + "the next", x.at(32 + gone), 32 + gone);
                    due(name + "WAITS", x.slot(1, 0, 5), gone == units ? 1 : 0);
                    due(name + "HEAD", x.channel(1, 4), gone == units ? 1 : 0);
                    due(name + "how often GRANTED", x.channel(1, 7), tick);
                }
                due("ticks(1) behind the last", x.ticks(1), 0);
            }
        }
        // A grant does not go on into the next LETTER.
        Rings y = Check.with("c1 0 8;" + letter(1, 3, 1) + letter(1, 3, 0));
        y.ticks(1);
        due("the next LETTER's RESIDUE", y.channel(1, 5), 3);
        // A BURST that is told midway is of the next TICK on.
        Rings z = Check.with("c1 0 1;" + letter(1, 16, 0));
        z.ticks(1);
        z.tunes(1, 0, 8);
        z.ticks(1);
        due("RESIDUE, 1 and 8 gone", z.channel(1, 5), 7);
    }

    private static void asItIsByThen() {
        CHECK.words("one after the other (each reads its BYTE as it is by then), RESIDUE is so many less.");
        Rings x = Check.with("c0 0 8;f0 200;l0 0 1 16 1 1 1 0 0 0;");
        x.ticks(1);
        due("at(8)", x.at(8), 200);
        due("at(9)", x.at(9), 9);
        x.ticks(1);
        due("at(16)", x.at(16), 200);
        due("at(17)", x.at(17), 17);
        // The other way nothing is read that was written.
        Rings y = Check.with("c0 0 8;l0 7 8 8-1-1 1 0 0 0;");
        y.ticks(1);
        for (int i = 1; i <= 8; i++) {
            due("at(" + i + ")", y.at(i), i - 1);
        }
        // Two CHANNELS: the second reads what the first wrote.
        Rings z = Check.with("l0 5 40 1 0 0 1 0 0 0;l1 40 41 1 0 0 1 0 0 0;");
        z.ticks(2);
        due("at(41)", z.at(41), 5);
        // All to one ADDRESS: the last one stays.
        Rings one = Check.with("l0 5 40 4 1 0 1 0 0 0;");
        one.ticks(1);
        due("at(40)", one.at(40), 8);
        due("from itself to itself", Check.with("l0 9 9 16 0 0 4 0 0 0;").ticks(40), 16);
    }

    private static void ifItIs0Then() {
        CHECK.words("If it is 0 then, the LETTER WAITS, and HEAD is the next SLOT.");
        Rings x = Check.with(letter(2, 4, 0).repeat(5), letter(2, 5, 0));
        for (int i = 1; i <= 5; i++) {
            x.ticks(1);
            due("HEAD", x.channel(2, 4), i);
            due("waiting(0)", x.waiting(0), 16 + i - 1);
        }
        x.ticks(1);
        due("HEAD, one UNIT is left", x.channel(2, 4), 5);
        due("waiting(0), one UNIT is left", x.waiting(0), TransferRings.NONE);
        x.ticks(1);
        due("HEAD, 0 behind 5", x.channel(2, 4), 0);
        due("waiting(0)", x.waiting(0), 21);
        due("HEAD of another", x.channel(1, 4), 0);
    }

    private static void noneIsReady() {
        CHECK.words("(If none is READY, nobody is GRANTED.)");
        Rings x = Check.with(letter(1, 4, 0) + letter(2, 5, 0));
        x.switches(2);
        due("ticks(3)", x.ticks(3), 1);
        due("count(2) stays", x.count(2), 1);
        due("count(6)", x.count(6), 3);
        for (int c = 0; c <= 3; c++) {
            due("how often " + c, x.channel(c, 7), c == 1 ? 1 : 0);
        }
        due("granted(1)", x.granted(1), TransferRings.NONE);
        due("RESIDUE of the one that is off", x.channel(2, 5), 5);
        due("HEAD of the one that is off", x.channel(2, 4), 0);
    }
}
