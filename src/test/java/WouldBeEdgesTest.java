/** The edges that the document's part 3 names: OVER, LANDS, ENOUGH, SEEN, RANKS, IMAGES. Each test quotes its words. */
public final class WouldBeEdgesTest {
    private static final Check CHECK = new Check();
    private static final String UNITS_64 = "l0 0 8 16 1 1 4 0 0 0;";

    public static void main(String[] args) {
        nothingIsChanged();
        overAt0();
        overAt200();
        overBehindNone();
        overOfTheEngine();
        overIsTheFirst();
        landsOfWhatIsNotCarried();
        landsOnOrOff();
        enoughOf1To8();
        enoughWithinN();
        enoughAllElseAsItIs();
        seenNeverMoreThan6();
        seenInTheKthTick();
        ranksBits();
        ranksAllThatWasSeen();
        ranksWhenThisIsAsked();
        imagesKeep();
        imagesKeepNothingElse();
        behindBack();
        CHECK.end("WouldBeEdgesTest");
    }

    private static void due(String call, long got, long want) {
        CHECK.due(call, got, want);
    }

    private static String letter(int channel, int units, int chained) {
        return "l" + channel + " 0 32 " + units + " 1 1 1 0 0 " + chained + ";";
    }

    private static void nothingIsChanged() {
        CHECK.words("======== 3 (Nothing is changed.)");
        // In this state 2, 2, 0, 0, 0 are GRANTED, and then nobody.
        State midway = new State(States.midway("f9 9;"));
        midway.leaves(CHECK, "over(0)", x -> x.over(0), 6);
        midway.leaves(CHECK, "over(1)", x -> x.over(1), 0);
        midway.leaves(CHECK, "over(2)", x -> x.over(2), 3);
        midway.leaves(CHECK, "lands(20)", x -> x.lands(20), 1);
        midway.leaves(CHECK, "lands(30), of one that WAITS, too", x -> x.lands(30), 1);
        midway.leaves(CHECK, "enough(0, 6)", x -> x.enough(0, 6), 4);
        midway.leaves(CHECK, "enough(0, 5)", x -> x.enough(0, 5), 6);
        midway.leaves(CHECK, "enough(0, 4)", x -> x.enough(0, 4), TransferRings.NONE);
        midway.leaves(CHECK, "enough(2, 200)", x -> x.enough(2, 200), 1);
        midway.leaves(CHECK, "granted(1)", x -> x.granted(1), 2);
        midway.leaves(CHECK, "granted(5)", x -> x.granted(5), 0);
        midway.leaves(CHECK, "granted(6)", x -> x.granted(6), TransferRings.NONE);
        midway.leaves(CHECK, "granted(40)", x -> x.granted(40), TransferRings.NONE);
        midway.leaves(CHECK, "ranks(0)", x -> x.ranks(0), 1);
        midway.leaves(CHECK, "ranks(1)", x -> x.ranks(1), 15);
        midway.leaves(CHECK, "ranks(2)", x -> x.ranks(2), 14);
    }

    private static void overAt0() {
        CHECK.words("OVER of a CHANNEL: behind how many TICKS (0 .. 200), if just TICKS went by");
        Rings x = new Rings();
        for (int c = 0; c <= 3; c++) {
            due("over(" + c + "), no LETTER", x.over(c), 0);
        }
        Check.post(x, letter(1, 1, 0));
        due("over(1), one to carry and to write back", x.over(1), 2);
        x.ticks(1);
        due("over(1), one to write back", x.over(1), 1);
        x.ticks(1);
        due("over(1), one that is done", x.over(1), 0);
        Check.post(x, letter(1, 1, 0));
        x.cancels(1);
        due("over(1), one that was cancelled", x.over(1), 0);
        // Just TICKS, of all CHANNELS: those of 0 take their turns.
        Rings two = Check.with(letter(0, 9, 0) + letter(1, 9, 0));
        due("over(0), in turn", two.over(0), 6);
        due("over(1), in turn", two.over(1), 7);
    }

    private static void overAt200() {
        CHECK.words("(0 .. 200)");
        // One UNIT in a TICK, and a TICK to write back: 3 * 64 + units + 1.
        for (int units = 6; units <= 8; units++) {
            Rings x = Check.with("c0 0 1;" + UNITS_64.repeat(3) + letter(0, units, 0));
            int ticks = 3 * 64 + units + 1;
            due("over(0), " + ticks, x.over(0), ticks <= 200 ? ticks : TransferRings.NONE);
            due("enough(0, 200), " + ticks, x.enough(0, 200), ticks <= 200 ? 1 : 2);
            x.ticks(1);
            due("over(0), a TICK later", x.over(0), ticks - 1);
        }
    }

    private static void overBehindNone() {
        CHECK.words("NONE: behind none of these.");
        Rings x = Check.with(letter(0, 1, 0) + letter(1, 1, 0));
        x.switches(0);
        due("over(0), off", x.over(0), TransferRings.NONE);
        due("over(1)", x.over(1), 2);
        x.switches(0);
        due("over(0), ON again", x.over(0), 2);
        // One that WAITS is WRITTEN BACK, whether its CHANNEL is ON or off.
        x.ticks(1);
        x.switches(0);
        due("over(0), off while it WAITS", x.over(0), 1);
        // 4 * 64 TICKS and more.
        Rings far = Check.with("c0 0 1;" + UNITS_64.repeat(4));
        due("over(0), 257", far.over(0), TransferRings.NONE);
        due("over(1), nothing to do", far.over(1), 0);
        // One of a greater RANK is ahead all the time: 193 TICKS and 7 or 6 more.
        Rings behind = Check.with("c0 1 1;" + UNITS_64.repeat(3), "c1 0 1;" + letter(1, 7, 0));
        due("over(1), 200", behind.over(1), 200);
        due("over(0), 193", behind.over(0), 193);
        Check.post(behind, letter(1, 1, 0));
        due("over(1), 201", behind.over(1), TransferRings.NONE);
    }

    private static void overOfTheEngine() {
        CHECK.words("none of its SLOTS has a LETTER of the ENGINE first");
        // Looked at in every SLOT, not at HEAD alone.
        for (int first = 0; first <= 5; first++) {
            Rings x = new Rings();
            for (int i = 0; i < first; i++) {
                Check.post(x, letter(2, 1, 0));
                x.ticks(2);
            }
            Check.post(x, letter(2, 1, 0).repeat(4));
            due("over(2), from SLOT " + first, x.over(2), 5);
        }
        // A part was carried.
        Rings y = Check.with(letter(2, 9, 0));
        y.ticks(2);
        due("over(2), one UNIT is left", y.over(2), 2);
    }

    private static void overIsTheFirst() {
        CHECK.words("behind how many TICKS");
        Rings x = Check.with(letter(0, 16, 1) + letter(0, 5, 0) + letter(3, 8, 0));
        int[] over = {x.over(0), x.over(3)};
        due("over(0)", over[0], 9);
        due("over(3)", over[1], 5);
        for (int gone = 1; gone <= 9; gone++) {
            x.ticks(1);
            due("over(0), " + gone + " gone", x.over(0), over[0] - gone);
            due("over(3), " + gone + " gone", x.over(3), Math.max(0, over[1] - gone));
            due("the ENGINE's", x.count(0) > 0 ? 1 : 0, gone < 9 ? 1 : 0);
        }
    }

    private static void landsOfWhatIsNotCarried() {
        CHECK.words("LANDS of an ADDRESS: how many UNITS that have not been carried, of all LETTERS of the ENGINE that do not WAIT");
        Rings x = Check.with("c0 0 8;l0 0 63 16 1 0 4 0 1 0;");
        // 16 to 63, 16 to 0, 16 to 1, 16 to 2.
        int[][] want = {{62, 0}, {63, 16}, {0, 16}, {1, 16}, {2, 16}, {3, 0}};
        for (int gone = 0; gone <= 64; gone += 8) {
            for (int[] w : want) {
                int row = (w[0] + 1) % 64;
                int carried = w[1] == 0 ? 0 : Math.max(0, Math.min(16, gone - 16 * row));
                due("lands(" + w[0] + "), " + gone + " gone", x.lands(w[0]), w[1] - carried);
            }
            x.ticks(1);
        }
        // Done, cancelled: not the ENGINE's. One that WAITS has nothing left.
        Rings y = Check.with(letter(1, 4, 0) + letter(1, 6, 0));
        due("lands(32)", y.lands(32), 2);
        due("lands(37)", y.lands(37), 1);
        due("lands(38)", y.lands(38), 0);
        y.ticks(1);
        due("lands(32), one WAITS", y.lands(32), 1);
        y.ticks(1);
        due("lands(32), carried", y.lands(32), 0);
        due("lands(36)", y.lands(36), 1);
        y.cancels(1);
        due("lands(36), cancelled", y.lands(36), 0);
    }

    private static void landsOnOrOff() {
        CHECK.words("(of all CHANNELS, ON or off), go to it.");
        Rings x = Check.with(letter(0, 1, 0) + letter(1, 1, 0) + letter(2, 1, 0) + letter(3, 1, 0));
        Check.post(x, letter(0, 1, 0) + letter(3, 1, 0));
        due("lands(32)", x.lands(32), 6);
        for (int c = 0; c <= 3; c++) {
            x.switches(c);
            due("lands(32), off", x.lands(32), 6);
        }
        String most = "l2 0 32 16 1 0 4 0 0 0;";
        Rings y = Check.with(most.repeat(5), most, most.repeat(5).replace('2', '1').replace("31", "32"));
        due("lands(32), 11 times 64", y.lands(32), 11 * 64);
        due("lands(31)", y.lands(31), 0);
    }

    private static void enoughOf1To8() {
        CHECK.words("the least BURST (1 .. 8) of it");
        // 16 UNITS and one TICK to write back: 17 by 1, 9 by 2, 7 by 3, 5 by 4, 5, 4 by 6, 4, 3 by 8.
        Rings x = Check.with(letter(0, 16, 0));
        int[] want = {-9, -9, -9, 8, 6, 4, 4, 3, 3, 2, 2, 2, 2, 2, 2, 2, 2, 1, 1};
        for (int n = 0; n < want.length; n++) {
            due("enough(0, " + n + ")", x.enough(0, n), want[n]);
        }
        due("enough(0, 200)", x.enough(0, 200), 1);
        due("BURST is as it was", x.channel(0, 2), 4);
        // One of 9 would be enough: there is none.
        due("9 UNITS", Check.with("l0 0 0 3 0 0 3 0 0 0;").enough(0, 2), TransferRings.NONE);
        due("8 UNITS", Check.with("l0 0 0 4 0 0 2 0 0 0;").enough(0, 2), 8);
        due("none to carry", new Rings().enough(3, 0), 1);
        due("none to carry", new Rings().enough(3, 200), 1);
    }

    private static void enoughWithinN() {
        CHECK.words("by which OVER of it is n or less; NONE.");
        for (int burst = 1; burst <= 8; burst++) {
            Rings x = Check.with("c0 0 " + burst + ";" + letter(0, 15, 0) + letter(0, 3, 0));
            int over = x.over(0);
            int least = x.enough(0, over);
            CHECK.holds("BURST " + burst + " is enough for " + over, least >= 1 && least <= burst);
            x.tunes(0, 0, least);
            due("OVER by it", x.over(0) <= over ? 1 : 0, 1);
            if (least > 1) {
                x.tunes(0, 0, least - 1);
                due("OVER by one less", x.over(0) > over ? 1 : 0, 1);
            }
        }
        Rings waits = Check.with(letter(0, 1, 0));
        waits.ticks(1);
        due("enough(0, 0), one WAITS", waits.enough(0, 0), TransferRings.NONE);
        due("enough(0, 1), one WAITS", waits.enough(0, 1), 1);
        waits.ticks(1);
        due("enough(0, 0), it is done", waits.enough(0, 0), 1);
        Rings off = Check.with(letter(0, 1, 0));
        off.switches(0);
        due("enough(0, 200), off", off.enough(0, 200), TransferRings.NONE);
    }

    private static void enoughAllElseAsItIs() {
        CHECK.words("all else as it is, by which OVER of it is n or less");
        // 0 is carried in part; 1 is of its RANK, with its own BURST.
        Rings x = Check.with(letter(0, 16, 0) + letter(1, 16, 0) + "c1 0 2;");
        x.ticks(1);
        due("RESIDUE", x.channel(0, 5), 12);
        // 1 0 1 0 .. : by 6 in the 4th, by 4 in the 6th, and one TICK more.
        due("enough(0, 4)", x.enough(0, 4), TransferRings.NONE);
        due("enough(0, 5)", x.enough(0, 5), 6);
        due("enough(0, 6)", x.enough(0, 6), 6);
        due("enough(0, 7)", x.enough(0, 7), 4);
        due("enough(1, 16)", x.enough(1, 16), 2);
        // By 8 it is 1 0 1, and one to write back; by 7 it is 1 0 1 0 1 0.
        due("enough(1, 4)", x.enough(1, 4), 8);
        due("enough(1, 5)", x.enough(1, 5), 8);
        due("enough(1, 6)", x.enough(1, 6), 6);
    }

    private static void seenNeverMoreThan6() {
        CHECK.words("SEEN (never more than 6)");
        Rings x = new Rings();
        for (int i = 1; i <= 6; i++) {
            due("sees, " + i, x.sees(i, TransferRings.NONE), i);
            due("count(3)", x.count(3), i);
        }
        due("a seventh", x.sees(7, TransferRings.NONE), TransferRings.FULL);
        due("one that was told", x.sees(1, TransferRings.NONE), TransferRings.FULL);
        due("count(3)", x.count(3), 6);
        due("ranks(0)", x.ranks(0), 15);
        due("forget", x.forget(), 6);
        due("sees", x.sees(1, 0), 1);
        // The sixth counts, and the seventh does not.
        Rings y = Check.with(letter(1, 1, 0));
        for (int i = 1; i <= 5; i++) {
            y.sees(1, 1);
        }
        due("ranks(1) by five", y.ranks(1), 15);
        due("the sixth", y.sees(2, 1), 6);
        due("ranks(1) by six", y.ranks(1), 0);
        y.forget();
        for (int i = 1; i <= 6; i++) {
            y.sees(1, 1);
        }
        due("the seventh", y.sees(2, 1), TransferRings.FULL);
        due("ranks(1) by six", y.ranks(1), 15);
        State full = new State(States.crowded("f9 9;"));
        full.leaves(CHECK, "sees(1, 0), FULL", z -> z.sees(1, 0), TransferRings.FULL);
        full.leaves(CHECK, "sees(40, NONE), FULL", z -> z.sees(40, TransferRings.NONE), TransferRings.FULL);
    }

    private static void seenInTheKthTick() {
        CHECK.words("in the k-th TICK from now on (1 .. 40), if just TICKS went by, a CHANNEL is GRANTED, or nobody (NONE)");
        // 0 is GRANTED in the TICKS 1 to 39, 1 in the 40th if its RANK is less.
        Rings x = Check.with("c0 1 1;l0 0 0 13 0 0 3 0 0 0;c1 0 1;" + letter(1, 1, 0));
        due("granted(1)", x.granted(1), 0);
        due("granted(39)", x.granted(39), 0);
        due("granted(40)", x.granted(40), 1);
        x.sees(40, 1);
        due("ranks(1), the 40th", x.ranks(1), 1);
        x.sees(1, 0);
        due("ranks(1), the first, too", x.ranks(1), 1);
        x.forget();
        x.sees(1, 1);
        due("ranks(1), the first", x.ranks(1), 12);
        x.forget();
        x.sees(2, 1);
        due("ranks(1), the second: of the same RANK", x.ranks(1), 2);
        x.forget();
        x.sees(40, 0);
        due("ranks(1), ahead of the 40th", x.ranks(1), 14);
        x.forget();
        x.sees(40, TransferRings.NONE);
        due("ranks(1), somebody in the 40th", x.ranks(1), 0);
        due("ticks(1)", x.ticks(1), 1);
        due("ranks(1), a TICK later nobody is", x.ranks(1), 15);
    }

    private static void ranksBits() {
        CHECK.words("RANKS of a CHANNEL: those (bits 0 to 3) that it could have");
        // 0 of RANK r against 1 of RANK 1 or 2; 3 was GRANTED last, so that 0 goes first of two alike.
        for (int other = 0; other <= 3; other++) {
            Rings x = Check.with(letter(0, 8, 0) + letter(1, 8, 0) + "c1 " + other + " 8;");
            x.sees(1, 0);
            due("0 first, against " + other, x.ranks(0), 15 >> other << other);
            x.sees(2, 0);
            due("0 twice, against " + other, x.ranks(0), 15 >> other + 1 << other + 1);
            x.forget();
            x.sees(1, 1);
            due("1 first, against " + other, x.ranks(0), (1 << other) - 1);
            due("1 first, but 0 has RANK 0", x.ranks(1), 14);
            due("RANK of 0 is as it was", x.channel(0, 1), 0);
            due("RANK of 1 is as it was", x.channel(1, 1), other);
        }
        Rings none = new Rings();
        none.sees(1, TransferRings.NONE);
        due("nobody, no LETTERS", none.ranks(2), 15);
        none.sees(2, 2);
        due("somebody, no LETTERS", none.ranks(2), 0);
    }

    private static void ranksAllThatWasSeen() {
        CHECK.words("by which all that was SEEN is so.");
        Rings x = Check.with(letter(0, 8, 0) + letter(1, 8, 0));
        due("nothing SEEN", x.ranks(0), 15);
        x.sees(1, 0);
        due("one", x.ranks(0), 15);
        x.sees(4, 1);
        due("two", x.ranks(0), 15);
        x.sees(2, 0);
        due("three", x.ranks(0), 14);
        x.sees(5, TransferRings.NONE);
        due("four", x.ranks(0), 14);
        x.sees(2, 1);
        due("two that can't be both", x.ranks(0), 0);
        due("forget", x.forget(), 5);
        due("nothing SEEN", x.ranks(0), 15);
        // The order in which they were told is nothing.
        x.sees(2, 0);
        x.sees(1, 0);
        due("told the other way", x.ranks(0), 14);
    }

    private static void ranksWhenThisIsAsked() {
        CHECK.words("all else as it is when this is asked");
        Rings x = new Rings();
        x.sees(1, 1);
        due("no LETTER", x.ranks(1), 0);
        Check.post(x, letter(0, 8, 0) + letter(1, 8, 0));
        due("posted since", x.ranks(1), 14);
        x.ticks(1);
        due("0 was GRANTED since", x.ranks(1), 15);
        x.tunes(0, 3, 4);
        due("0 of RANK 3 since", x.ranks(1), 8);
        x.switches(0);
        due("0 off since", x.ranks(1), 15);
        due("of 0, all else: 1 alone", x.ranks(0), 15);
        x.cancels(1);
        due("cancelled since", x.ranks(1), 0);
        x.undo();
        due("undone since", x.ranks(1), 15);
    }

    private static void imagesKeep() {
        CHECK.words("IMAGES 0, 1 keep all that 1 and 2 tell but THE TEXT");
        State.Steps[] states = {States.fresh(""), States.midway(""), States.crowded("")};
        int[] engines = {0, 3, 6};
        for (int i = 0; i < states.length; i++) {
            for (int image = 0; image <= 1; image++) {
                int which = image;
                State.Steps ahead = states[i];
                Rings x = new Rings();
                ahead.in(x);
                due("keep(" + image + ")", x.keep(image), engines[i]);
                x.ticks(7);
                due("back(" + image + ")", x.back(image), engines[i]);
                CHECK.holds("as it was kept", State.enginesAlike(ahead, State.behind(ahead, y -> {
                    y.keep(which);
                    changeAll(y);
                    y.back(which);
                })));
                CHECK.holds("back again", State.enginesAlike(ahead, State.behind(ahead, y -> {
                    y.keep(which);
                    y.ticks(40);
                    y.keep(1 - which);
                    y.back(which);
                    y.cancels(1);
                    y.switches(1);
                    y.back(which);
                })));
            }
        }
        // Kept anew: the older one is gone.
        Rings x = Check.with("f0 9;");
        x.keep(0);
        x.keep(1);
        Check.post(x, "f0 8;");
        x.keep(0);
        Check.post(x, "f0 7;");
        x.back(0);
        due("at(0), kept anew", x.at(0), 8);
        x.back(1);
        due("at(0), the other one", x.at(0), 9);
    }

    /** Something of all that 1 and 2 tell becomes another. */
    private static void changeAll(Rings x) {
        x.clear();
        Check.post(x, "f0 1;f63 2;c0 2 7;c3 2 7;" + letter(0, 1, 1) + letter(2, 9, 1) + letter(3, 2, 0));
        x.ticks(3);
        x.cancels(0);
        x.cancels(2);
        for (int c = 0; c <= 3; c++) {
            x.switches(c);
        }
        x.ticks(2);
    }

    private static void imagesKeepNothingElse() {
        CHECK.words("nothing else.");
        Rings x = new Rings();
        Check.typed(x, "f0 9");
        x.sees(1, 1);
        x.keep(0);
        x.type(';');
        x.sees(2, 2);
        x.keep(1);
        due("back(0)", x.back(0), 0);
        due("THE TEXT", x.count(4), 5);
        due("SEEN", x.count(3), 2);
        due("the other IMAGE", x.back(1), 0);
        due("posts", x.posts(), 1);
        due("at(0)", x.at(0), 9);
        due("forget", x.forget(), 2);
        due("back(0)", x.back(0), 0);
        due("SEEN does not come back", x.count(3), 0);
        due("at(0)", x.at(0), 0);
        due("THE TEXT does not come back", x.clear(), 0);
    }

    private static void behindBack() {
        CHECK.words("Behind back() nothing can be UNDONE; SEEN, IMAGES stay.");
        Rings x = new Rings();
        for (int i = 0; i < 8; i++) {
            x.ticks(1);
        }
        x.keep(1);
        due("keep() lets all be UNDONE", x.count(5), 6);
        due("back(0), refused", x.back(0), TransferRings.STATE);
        due("back(2), refused", x.back(2), TransferRings.BAD);
        due("refused, all can be UNDONE", x.count(5), 6);
        x.sees(1, 1);
        due("back(1)", x.back(1), 0);
        due("count(5)", x.count(5), 0);
        due("undo", x.undo(), TransferRings.STATE);
        due("count(6)", x.count(6), 8);
        due("SEEN", x.count(3), 1);
        x.ticks(1);
        due("count(5)", x.count(5), 1);
        due("undo", x.undo(), 0);
        due("count(6)", x.count(6), 8);
        due("undo", x.undo(), TransferRings.STATE);
        due("back(1) again", x.back(1), 0);
        due("back(0)", x.back(0), TransferRings.STATE);
        for (int i = 0; i < 8; i++) {
            x.ticks(1);
        }
        due("six can be UNDONE anew", x.count(5), 6);
    }
}
