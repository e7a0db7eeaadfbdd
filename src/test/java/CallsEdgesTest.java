/**
 * Promises 1 to 25, call by call: of each number the last value that is taken and the first that is
 * refused on either side; the order of refusals; and that what is refused or asked changes nothing.
 */
public final class CallsEdgesTest {
    private static final Check CHECK = new Check();
    private static final int LEAST = Integer.MIN_VALUE, MOST = Integer.MAX_VALUE;
    private static final int[] NO_CHANNELS = {-1, 4, -9, LEAST, MOST};
    private static final int[] NO_SLOTS = {-1, 6, LEAST, MOST};
    private static final String[] NAMES = {"new: ", "midway: ", "crowded: "};
    /** In the last one THE TEXT has 120 letters. */
    private static final State[] STATES = {new State(States.fresh("f9 9;")), new State(States.midway("f9 9;")),
        new State(States.crowded("f0 9;".repeat(24)))};
    private static final State NEW = STATES[0], MIDWAY = STATES[1], CROWDED = STATES[2];

    private interface OfNumber {
        State.Call with(int number);
    }

    public static void main(String[] args) {
        aNewObject();
        theFirstRefusal();
        type();
        clear();
        posts();
        ticks();
        cancels();
        switches();
        tunes();
        undo();
        at();
        channel();
        slot();
        unit();
        waiting();
        both();
        over();
        lands();
        enough();
        granted();
        sees();
        forget();
        ranks();
        keep();
        back();
        count();
        CHECK.end("CallsEdgesTest");
    }

    private static void due(String call, long got, long want) {
        CHECK.due(call, got, want);
    }

    /** Refused in every state, for each of these numbers, and nothing changes. */
    private static void bad(String call, OfNumber calls, int... numbers) {
        for (int i = 0; i < STATES.length; i++) {
            for (int number : numbers) {
                STATES[i].leaves(CHECK, NAMES[i] + call + " with " + number, calls.with(number), TransferRings.BAD);
            }
        }
    }

    private static void aNewObject() {
        CHECK.words("A new one: all as at first, nothing SEEN, no IMAGES, nothing can be UNDONE.");
        int[] counts = {0, 0, 3, 0, 0, 0, 0};
        Rings x = new Rings();
        for (int what = 0; what <= 6; what++) {
            due("count(" + what + ")", x.count(what), counts[what]);
        }
        for (int c = 0; c <= 3; c++) {
            due("ranks(" + c + ")", x.ranks(c), 15);
            due("over(" + c + ")", x.over(c), 0);
            due("cancels(" + c + ")", x.cancels(c), TransferRings.STATE);
        }
        for (int address = 0; address <= 63; address++) {
            due("lands(" + address + ")", x.lands(address), 0);
        }
        for (int k = 1; k <= 40; k++) {
            due("granted(" + k + ")", x.granted(k), TransferRings.NONE);
        }
        due("waiting(0)", x.waiting(0), TransferRings.NONE);
        due("back(0)", x.back(0), TransferRings.STATE);
        due("back(1)", x.back(1), TransferRings.STATE);
        due("undo()", x.undo(), TransferRings.STATE);
        due("forget()", x.forget(), 0);
        due("clear()", x.clear(), 0);
        due("posts()", x.posts(), 0);
        // Two objects have nothing in common.
        Rings other = new Rings();
        Check.post(x, "f0 9;l0 0 0 1 0 0 1 0 0 0;");
        x.sees(1, 1);
        x.keep(0);
        due("at(0) of another", other.at(0), 0);
        due("count(0) of another", other.count(0), 0);
        due("count(3) of another", other.count(3), 0);
        due("count(5) of another", other.count(5), 0);
        due("back(0) of another", other.back(0), TransferRings.STATE);
    }

    private static void theFirstRefusal() {
        CHECK.words("Refused, and nothing changes, the first of these: BAD (a number is not as told, or there is no such thing), STATE (as told), FULL.");
        CROWDED.leaves(CHECK, "type(256), where 32 is FULL", x -> x.type(256), TransferRings.BAD);
        CROWDED.leaves(CHECK, "sees(0, 1), where 1, 1 is FULL", x -> x.sees(0, 1), TransferRings.BAD);
        CROWDED.leaves(CHECK, "sees(1, 4), where 1, 1 is FULL", x -> x.sees(1, 4), TransferRings.BAD);
        NEW.leaves(CHECK, "cancels(4), where 3 is STATE", x -> x.cancels(4), TransferRings.BAD);
        NEW.leaves(CHECK, "tunes(4, 0, 4), where 3, 0, 4 is STATE", x -> x.tunes(4, 0, 4), TransferRings.BAD);
        NEW.leaves(CHECK, "back(2), where 1 is STATE", x -> x.back(2), TransferRings.BAD);
        NEW.leaves(CHECK, "all numbers BAD", x -> x.tunes(4, 4, 9), TransferRings.BAD);
        NEW.leaves(CHECK, "all numbers BAD", x -> x.both(4, 6, -1, -1), TransferRings.BAD);
        NEW.leaves(CHECK, "all numbers BAD", x -> x.unit(4, 6, -1, 2), TransferRings.BAD);
    }

    private static void type() {
        CHECK.words("A letter (0 .. 255) comes to THE TEXT: how many it has. BAD; FULL: 120.");
        bad("type", number -> x -> x.type(number), -1, 256, -9, 1000, LEAST, MOST, 32 + 65536);
        for (int sign = 0; sign <= 255; sign++) {
            Rings x = new Rings();
            due("type(" + sign + ")", x.type(sign), 1);
            due("posts()", x.posts(), sign == ' ' ? 0 : "lfc".indexOf(sign) >= 0 ? -11 : -10);
        }
        int[] signs = {0, ' ', ';', 255};
        for (int sign : signs) {
            CROWDED.leaves(CHECK, "type(" + sign + "), FULL", x -> x.type(sign), TransferRings.FULL);
        }
        Rings x = new Rings();
        for (int i = 1; i <= 130; i++) {
            due("type, " + i, x.type(i % 256), i <= 120 ? i : TransferRings.FULL);
        }
        due("count(4)", x.count(4), 120);
        due("clear()", x.clear(), 120);
        due("type, the first again", x.type(0), 1);
    }

    private static void clear() {
        CHECK.words("THE TEXT is empty: how many letters it had.");
        int[] lengths = {0, 1, 119, 120};
        for (int length : lengths) {
            Rings x = new Rings();
            Check.typed(x, ";".repeat(length));
            due("clear() of " + length, x.clear(), length);
            due("count(4)", x.count(4), 0);
            due("clear() again", x.clear(), 0);
            due("posts()", x.posts(), 0);
        }
        CHECK.holds("nothing else is changed", State.enginesAlike(States.midway("f9 9;"),
                State.behind(States.midway("f9 9;"), Rings::clear)));
        Rings y = new Rings();
        States.midway("f9 9;").in(y);
        due("clear()", y.clear(), 5);
        due("SEEN", y.count(3), 3);
        due("UNDONE", y.count(5), 6);
    }

    private static void posts() {
        CHECK.words("THE TEXT is POSTED, and is empty then: how many ITEMS. -10 less FAULT, FULL: nothing changes, THE TEXT stays.");
        for (int items = 0; items <= 24; items++) {
            Rings x = new Rings();
            due(items + " ITEMS", Check.posted(x, "f9 9;".repeat(items)), items);
            due("count(4)", x.count(4), 0);
            due("count(5)", x.count(5), 1);
            due("posts() again, of none", x.posts(), 0);
        }
        // FAULT 0 and 120: -10 and -130.
        Rings first = new Rings();
        due("FAULT 0", Check.posted(first, ";"), -10);
        due("count(4)", first.count(4), 1);
        Rings last = new Rings();
        due("FAULT 120", Check.posted(last, " ".repeat(119) + "f"), -130);
        due("count(4)", last.count(4), 120);
        due("type, FULL", last.type(32), TransferRings.FULL);
        String full = "l1 0 40 2 1 1 1 0 0 1;";
        new State(States.crowded(full)).leaves(CHECK, "posts(), FULL", Rings::posts, TransferRings.FULL);
        new State(States.crowded(full + ";")).leaves(CHECK, "posts(), FAULT", Rings::posts, -10 - full.length());
    }

    private static void ticks() {
        CHECK.words("n TICKS (1 .. 40) go by: in how many of them a CHANNEL was GRANTED. BAD.");
        bad("ticks", number -> x -> x.ticks(number), 0, 41, -1, -40, LEAST, MOST);
        for (int n = 1; n <= 40; n++) {
            Rings x = Check.with("c0 0 1;l0 0 0 16 0 0 4 0 0 0;");
            due("ticks(" + n + ")", x.ticks(n), n);
            due("count(6)", x.count(6), n);
            due("RESIDUE", x.channel(0, 5), 64 - n);
            due("how often", x.channel(0, 7), n);
        }
        Rings part = Check.with("l0 0 0 16 0 0 1 0 0 0;");
        due("ticks(40), 4 with a grant", part.ticks(40), 4);
        due("ticks(40), none", part.ticks(40), 0);
        due("count(6)", part.count(6), 80);
    }

    private static void cancels() {
        CHECK.words("A CHANNEL is CANCELLED: the RESIDUE of all LETTERS that were cancelled, together. BAD; STATE: it has no PRESENT LETTER.");
        bad("cancels", number -> x -> x.cancels(number), NO_CHANNELS);
        for (int c = 0; c <= 3; c++) {
            int channel = c;
            NEW.leaves(CHECK, "cancels(" + c + ")", x -> x.cancels(channel), TransferRings.STATE);
            Rings x = Check.with("l" + c + " 0 0 7 0 0 1 0 0 0;");
            due("cancels(" + c + ")", x.cancels(c), 7);
            due("cancels(" + c + ") again", x.cancels(c), TransferRings.STATE);
        }
        MIDWAY.leaves(CHECK, "cancels(1)", x -> x.cancels(1), TransferRings.STATE);
        MIDWAY.leaves(CHECK, "cancels(3)", x -> x.cancels(3), TransferRings.STATE);
        CROWDED.leaves(CHECK, "cancels(0)", x -> x.cancels(0), TransferRings.STATE);
    }

    private static void switches() {
        CHECK.words("A CHANNEL that is ON is off then, one that is off is ON: 1 ON, 0 off. BAD.");
        bad("switches", number -> x -> x.switches(number), NO_CHANNELS);
        for (int c = 0; c <= 3; c++) {
            Rings x = new Rings();
            due("switches(" + c + ")", x.switches(c), 0);
            for (int other = 0; other <= 3; other++) {
                due("ON of " + other, x.channel(other, 0), other == c ? 0 : 1);
            }
            due("switches(" + c + ")", x.switches(c), 1);
            due("ON of " + c, x.channel(c, 0), 1);
            due("count(5)", x.count(5), 2);
        }
    }

    private static void tunes() {
        CHECK.words("RANK and BURST of a CHANNEL: 1. BAD; STATE: they are that.");
        bad("tunes(n, 3, 8)", number -> x -> x.tunes(number, 3, 8), NO_CHANNELS);
        bad("tunes(0, n, 8)", number -> x -> x.tunes(0, number, 8), -1, 4, LEAST, MOST);
        bad("tunes(0, 3, n)", number -> x -> x.tunes(0, 3, number), 0, 9, -1, LEAST, MOST);
        bad("tunes(n, 0, 4), as they are", number -> x -> x.tunes(number, 0, 4), NO_CHANNELS);
        for (int c = 0; c <= 3; c++) {
            int channel = c;
            NEW.leaves(CHECK, "tunes(" + c + ", 0, 4)", x -> x.tunes(channel, 0, 4), TransferRings.STATE);
            Rings x = new Rings();
            int[][] told = {{0, 1}, {0, 8}, {3, 8}, {3, 1}, {0, 4}};
            for (int[] t : told) {
                due("tunes(" + c + ", " + t[0] + ", " + t[1] + ")", x.tunes(c, t[0], t[1]), 1);
                due("RANK", x.channel(c, 1), t[0]);
                due("BURST", x.channel(c, 2), t[1]);
                due("they are that", x.tunes(c, t[0], t[1]), TransferRings.STATE);
                due("RANK of another", x.channel((c + 1) % 4, 1), 0);
                due("BURST of another", x.channel((c + 1) % 4, 2), 4);
            }
        }
        MIDWAY.leaves(CHECK, "tunes(2, 1, 3)", x -> x.tunes(2, 1, 3), TransferRings.STATE);
        MIDWAY.leaves(CHECK, "tunes(1, 3, 2)", x -> x.tunes(1, 3, 2), TransferRings.STATE);
    }

    private static void undo() {
        CHECK.words("UNDONE: how many more may be. STATE: none.");
        NEW.leaves(CHECK, "undo()", Rings::undo, TransferRings.STATE);
        Rings x = new Rings();
        States.midway("f9 9;").in(x);
        for (int i = 5; i >= 0; i--) {
            due("undo()", x.undo(), i);
        }
        due("undo()", x.undo(), TransferRings.STATE);
    }

    private static void at() {
        CHECK.words("The BYTE at an address (0 .. 63). BAD.");
        bad("at", number -> x -> x.at(number), -1, 64, -64, 128, LEAST, MOST);
        NEW.leaves(CHECK, "at(0)", x -> x.at(0), 0);
        NEW.leaves(CHECK, "at(63)", x -> x.at(63), 63);
        Rings x = Check.with("f0 255;f63 0;");
        due("at(0)", x.at(0), 255);
        due("at(63)", x.at(63), 0);
    }

    private static void channel() {
        CHECK.words("Of a CHANNEL: 0 whether it is ON (1, 0), 1 RANK, 2 BURST, 3 POST, 4 HEAD, 5 RESIDUE of its PRESENT LETTER (0: none), 6 TRANSFERS, 7 how often it was GRANTED, 8 whether it is READY (1, 0). BAD.");
        bad("channel(n, 0)", number -> x -> x.channel(number, 0), NO_CHANNELS);
        bad("channel(n, 8)", number -> x -> x.channel(number, 8), NO_CHANNELS);
        bad("channel(0, n)", number -> x -> x.channel(0, number), -1, 9, LEAST, MOST);
        bad("channel(3, n)", number -> x -> x.channel(3, number), -1, 9);
        int[][] midway = {{1, 0, 4, 1, 0, 12, 0, 0, 1}, {1, 3, 2, 2, 2, 0, 1, 2, 0}, {1, 1, 3, 2, 1, 5, 0, 1, 1}, {0, 0, 4, 0, 0, 0, 0, 0, 0}};
        for (int c = 0; c <= 3; c++) {
            for (int what = 0; what <= 8; what++) {
                int channel = c;
                int asked = what;
                MIDWAY.leaves(CHECK, "channel(" + c + ", " + what + ")", x -> x.channel(channel, asked), midway[c][what]);
            }
        }
    }

    private static void slot() {
        CHECK.words("Of a SLOT's LETTER: 0 OWNER, 1 STATUS, 2 RESIDUE, 3 UNITS, 4 whether it is CHAINED (1, 0), 5 whether it WAITS (1, 0); NONE: it has none. BAD.");
        bad("slot(n, 0, 0)", number -> x -> x.slot(number, 0, 0), NO_CHANNELS);
        bad("slot(0, n, 0)", number -> x -> x.slot(0, number, 0), NO_SLOTS);
        bad("slot(3, n, 5)", number -> x -> x.slot(3, number, 5), NO_SLOTS);
        bad("slot(1, 0, n)", number -> x -> x.slot(1, 0, number), -1, 6, LEAST, MOST);
        // BAD goes ahead of NONE: there is no LETTER there in any of the states.
        bad("slot(3, 5, n)", number -> x -> x.slot(3, 5, number), -1, 6);
        int[][] midway = {{0, 0, 1, 0, 12, 12, 1, 0}, {1, 0, 0, 1, 0, 2, 0, 0}, {1, 1, 0, 2, 1, 3, 1, 0}, {2, 0, 1, 0, 0, 3, 0, 1},
            {2, 1, 1, 0, 5, 5, 0, 0}, {0, 1, -9, -9, -9, -9, -9, -9}, {0, 5, -9, -9, -9, -9, -9, -9}, {3, 5, -9, -9, -9, -9, -9, -9}};
        for (int[] m : midway) {
            for (int what = 0; what <= 5; what++) {
                int asked = what;
                MIDWAY.leaves(CHECK, "slot(" + m[0] + ", " + m[1] + ", " + what + ")", x -> x.slot(m[0], m[1], asked), m[2 + what]);
            }
        }
        CROWDED.leaves(CHECK, "slot(1, 5, 2)", x -> x.slot(1, 5, 2), 2);
    }

    private static void unit() {
        CHECK.words("Of a UNIT (0 on) of a SLOT's LETTER: the address from where (way 0), to where it goes (1); NONE: there is no LETTER, no such UNIT (k above all). BAD (k below 0).");
        bad("unit(n, 0, 0, 0)", number -> x -> x.unit(number, 0, 0, 0), NO_CHANNELS);
        bad("unit(0, n, 0, 0)", number -> x -> x.unit(0, number, 0, 0), NO_SLOTS);
        bad("unit(1, 0, n, 0)", number -> x -> x.unit(1, 0, number, 0), -1, -2, LEAST);
        bad("unit(1, 0, 0, n)", number -> x -> x.unit(1, 0, 0, number), -1, 2, LEAST, MOST);
        // BAD goes ahead of NONE.
        bad("unit(3, 5, n, 1)", number -> x -> x.unit(3, 5, number, 1), -1, LEAST);
        bad("unit(3, 5, 0, n)", number -> x -> x.unit(3, 5, 0, number), -1, 2);
        bad("unit(1, 0, 64, n)", number -> x -> x.unit(1, 0, 64, number), -1, 2);
        int[][] midway = {{0, 0, 0, 0, 0}, {0, 0, 0, 1, 20}, {0, 0, 5, 0, 59}, {0, 0, 6, 0, 8}, {0, 0, 11, 0, 3}, {0, 0, 11, 1, 16},
            {0, 0, 12, 0, -9}, {0, 0, 12, 1, -9}, {0, 0, MOST, 0, -9}, {0, 1, 0, 0, -9}, {3, 5, 0, 1, -9}, {3, 5, MOST, 1, -9},
            {1, 0, 1, 1, 51}, {1, 0, 2, 1, -9}, {1, 1, 2, 0, 7}, {2, 0, 0, 1, 30}};
        for (int[] m : midway) {
            MIDWAY.leaves(CHECK, "unit(" + m[0] + ", " + m[1] + ", " + m[2] + ", " + m[3] + ")",
                    x -> x.unit(m[0], m[1], m[2], m[3]), m[4]);
        }
    }

    private static void waiting() {
        CHECK.words("LETTERS that WAIT, the one that WAITS longest first, the i-th (0 on): 8 times its CHANNEL, and its SLOT; NONE. BAD (i below 0).");
        bad("waiting", number -> x -> x.waiting(number), -1, -9, LEAST);
        MIDWAY.leaves(CHECK, "waiting(0)", x -> x.waiting(0), 16);
        int[] beyond = {1, 3, 4, 23, 24, 25, 64, MOST};
        for (int i : beyond) {
            MIDWAY.leaves(CHECK, "waiting(" + i + ")", x -> x.waiting(i), TransferRings.NONE);
            NEW.leaves(CHECK, "waiting(" + i + ")", x -> x.waiting(i), TransferRings.NONE);
        }
        NEW.leaves(CHECK, "waiting(0)", x -> x.waiting(0), TransferRings.NONE);
        for (int c = 0; c <= 3; c++) {
            Rings x = new Rings();
            for (int s = 0; s <= 5; s++) {
                Check.post(x, "l" + c + " 0 0 1 0 0 1 0 0 0;");
                x.ticks(1);
                due("waiting(0)", x.waiting(0), 8 * c + s);
            }
        }
    }

    private static void both() {
        CHECK.words("How many ADDRESSES LETTERS of two SLOTS both write (all their UNITS, carried or not; whose they are is not looked at; a SLOT with itself: all that its LETTER writes); NONE: one of them has none. BAD.");
        bad("both(n, 0, 1, 0)", number -> x -> x.both(number, 0, 1, 0), NO_CHANNELS);
        bad("both(1, n, 1, 0)", number -> x -> x.both(1, number, 1, 0), NO_SLOTS);
        bad("both(1, 0, n, 0)", number -> x -> x.both(1, 0, number, 0), NO_CHANNELS);
        bad("both(1, 0, 1, n)", number -> x -> x.both(1, 0, 1, number), NO_SLOTS);
        // BAD goes ahead of NONE.
        bad("both(3, 5, 1, n)", number -> x -> x.both(3, 5, 1, number), -1, 6);
        bad("both(n, 0, 3, 5)", number -> x -> x.both(number, 0, 3, 5), -1, 4);
        // Done, cancelled, waiting, posted: 50 51; 55 56 57; 30 31 32; 30 32 34 36 38; 20 .. 25 and 11 .. 16.
        int[][] midway = {{1, 0, 1, 0, 2}, {1, 1, 1, 1, 3}, {1, 0, 1, 1, 0}, {2, 0, 2, 1, 2}, {2, 1, 2, 0, 2}, {0, 0, 0, 0, 12},
            {2, 1, 2, 1, 5}, {0, 0, 0, 1, -9}, {0, 1, 0, 0, -9}, {3, 5, 3, 5, -9}};
        for (int[] m : midway) {
            MIDWAY.leaves(CHECK, "both(" + m[0] + ", " + m[1] + ", " + m[2] + ", " + m[3] + ")",
                    x -> x.both(m[0], m[1], m[2], m[3]), m[4]);
        }
        Rings all = Check.with("l0 0 0 16 0 1 4 0 16 0;l0 0 63 16 0-1 4 0-16 0;l0 0 7 16 0 0 4 0 0 0;l0 0 63 2 0 1 1 0 0 0;");
        int[][] want = {{0, 0, 64}, {0, 1, 64}, {1, 1, 64}, {2, 2, 1}, {0, 2, 1}, {3, 3, 2}, {1, 3, 2}, {2, 3, 0}};
        for (int round = 0; round < 3; round++) {
            for (int[] w : want) {
                due("both, SLOTS " + w[0] + " and " + w[1], all.both(0, w[0], 0, w[1]), w[2]);
                due("both, SLOTS " + w[1] + " and " + w[0], all.both(0, w[1], 0, w[0]), w[2]);
            }
            all.ticks(20);
        }
    }

    private static void over() {
        CHECK.words("OVER; NONE. BAD.");
        bad("over", number -> x -> x.over(number), NO_CHANNELS);
        int[] midway = {6, 0, 3, 0};
        for (int c = 0; c <= 3; c++) {
            int channel = c;
            MIDWAY.leaves(CHECK, "over(" + c + ")", x -> x.over(channel), midway[c]);
        }
        CROWDED.leaves(CHECK, "over(1)", x -> x.over(1), 12);
        CROWDED.leaves(CHECK, "over(0)", x -> x.over(0), 0);
    }

    private static void lands() {
        CHECK.words("LANDS. BAD.");
        bad("lands", number -> x -> x.lands(number), -1, 64, -64, LEAST, MOST);
        Rings x = Check.with("l0 0 0 1 0 0 1 0 0 0;l0 0 63 1 0 0 1 0 0 0;");
        due("lands(0)", x.lands(0), 1);
        due("lands(63)", x.lands(63), 1);
        due("lands(1)", x.lands(1), 0);
        due("lands(62)", x.lands(62), 0);
        CROWDED.leaves(CHECK, "lands(40)", y -> y.lands(40), 5);
        CROWDED.leaves(CHECK, "lands(41)", y -> y.lands(41), 6);
    }

    private static void enough() {
        CHECK.words("ENOUGH for n (0 .. 200); NONE. BAD.");
        bad("enough(n, 9)", number -> x -> x.enough(number, 9), NO_CHANNELS);
        bad("enough(0, n)", number -> x -> x.enough(0, number), -1, 201, LEAST, MOST);
        bad("enough(3, n)", number -> x -> x.enough(3, number), -1, 201);
        NEW.leaves(CHECK, "enough(0, 0)", x -> x.enough(0, 0), 1);
        NEW.leaves(CHECK, "enough(3, 200)", x -> x.enough(3, 200), 1);
        // Six LETTERS, a TICK each and one more, by a BURST of 2; of the first one UNIT is gone.
        CROWDED.leaves(CHECK, "enough(1, 6)", x -> x.enough(1, 6), TransferRings.NONE);
        CROWDED.leaves(CHECK, "enough(1, 7)", x -> x.enough(1, 7), 2);
        CROWDED.leaves(CHECK, "enough(1, 11)", x -> x.enough(1, 11), 2);
        CROWDED.leaves(CHECK, "enough(1, 12)", x -> x.enough(1, 12), 1);
        CROWDED.leaves(CHECK, "enough(1, 0)", x -> x.enough(1, 0), TransferRings.NONE);
    }

    private static void granted() {
        CHECK.words("Who is GRANTED in the k-th TICK from now on (1 .. 40), if just TICKS went by; NONE: nobody. BAD.");
        bad("granted", number -> x -> x.granted(number), 0, 41, -1, LEAST, MOST);
        NEW.leaves(CHECK, "granted(1)", x -> x.granted(1), TransferRings.NONE);
        NEW.leaves(CHECK, "granted(40)", x -> x.granted(40), TransferRings.NONE);
        CROWDED.leaves(CHECK, "granted(11)", x -> x.granted(11), 1);
        CROWDED.leaves(CHECK, "granted(12)", x -> x.granted(12), TransferRings.NONE);
        Rings x = Check.with("c3 0 1;l3 0 0 10 0 0 4 0 0 0;c2 0 1;l2 0 0 1 0 0 1 0 0 0;");
        due("granted(1)", x.granted(1), 2);
        due("granted(2)", x.granted(2), 3);
        due("granted(40)", x.granted(40), 3);
        x.ticks(1);
        due("granted(40), a TICK later", x.granted(40), 3);
        x.ticks(1);
        due("granted(40), two TICKS later", x.granted(40), TransferRings.NONE);
        due("granted(39), two TICKS later", x.granted(39), 3);
        // A grant that is asked for carries nothing, and nobody was GRANTED by it.
        Rings y = Check.with("l0 5 40 1 0 0 1 0 0 0;");
        due("granted(1)", y.granted(1), 0);
        due("at(40)", y.at(40), 40);
        due("count(2)", y.count(2), 3);
        due("granted(1) again", y.granted(1), 0);
    }

    private static void sees() {
        CHECK.words("SEEN (a CHANNEL, or NONE): how much there is. BAD; FULL: 6.");
        bad("sees(n, 0)", number -> x -> x.sees(number, 0), 0, 41, -1, LEAST, MOST);
        bad("sees(n, NONE)", number -> x -> x.sees(number, TransferRings.NONE), 0, 41);
        bad("sees(1, n)", number -> x -> x.sees(1, number), -1, 4, -2, -3, -8, -10, LEAST, MOST);
        Rings x = new Rings();
        int[][] taken = {{1, 0}, {40, 3}, {1, TransferRings.NONE}, {40, TransferRings.NONE}, {40, 0}, {1, 3}};
        for (int i = 0; i < 6; i++) {
            due("sees(" + taken[i][0] + ", " + taken[i][1] + ")", x.sees(taken[i][0], taken[i][1]), i + 1);
        }
        due("the seventh", x.sees(1, 0), TransferRings.FULL);
        due("count(5)", x.count(5), 0);
        for (int c = 0; c <= 3; c++) {
            int channel = c;
            CROWDED.leaves(CHECK, "sees(1, " + c + ")", y -> y.sees(1, channel), TransferRings.FULL);
        }
        CROWDED.leaves(CHECK, "sees(40, NONE)", y -> y.sees(40, TransferRings.NONE), TransferRings.FULL);
    }

    private static void forget() {
        CHECK.words("Nothing is SEEN: how much was.");
        for (int many = 0; many <= 6; many++) {
            Rings x = new Rings();
            for (int i = 0; i < many; i++) {
                x.sees(1, 1);
            }
            due("forget() of " + many, x.forget(), many);
            due("count(3)", x.count(3), 0);
            due("forget() again", x.forget(), 0);
            due("ranks(1)", x.ranks(1), 15);
            due("sees", x.sees(1, 1), 1);
        }
        CHECK.holds("nothing else is changed", State.enginesAlike(States.midway(""), State.behind(States.midway(""), Rings::forget)));
    }

    private static void ranks() {
        CHECK.words("RANKS (bits). BAD.");
        bad("ranks", number -> x -> x.ranks(number), NO_CHANNELS);
        int[] midway = {1, 15, 14, 15};
        for (int c = 0; c <= 3; c++) {
            int channel = c;
            NEW.leaves(CHECK, "ranks(" + c + ")", x -> x.ranks(channel), 15);
            MIDWAY.leaves(CHECK, "ranks(" + c + ")", x -> x.ranks(channel), midway[c]);
            CROWDED.leaves(CHECK, "ranks(" + c + ")", x -> x.ranks(channel), 15);
        }
    }

    private static void keep() {
        CHECK.words("An IMAGE is kept: how many LETTERS are the ENGINE's. BAD.");
        bad("keep", number -> x -> x.keep(number), -1, 2, LEAST, MOST);
        int[] engines = {0, 3, 6};
        State.Steps[] steps = {States.fresh(""), States.midway(""), States.crowded("")};
        for (int i = 0; i < steps.length; i++) {
            for (int image = 0; image <= 1; image++) {
                Rings x = new Rings();
                steps[i].in(x);
                int undone = x.count(5);
                due(NAMES[i] + "keep(" + image + ")", x.keep(image), engines[i]);
                due(NAMES[i] + "count(0)", x.count(0), engines[i]);
                due(NAMES[i] + "count(5)", x.count(5), undone);
                due(NAMES[i] + "the other IMAGE, as it was", x.back(1 - image) < 0 ? 0 : 1, i == 2 || i == 1 && image == 1 ? 1 : 0);
            }
        }
    }

    private static void back() {
        CHECK.words("All of that becomes as an IMAGE has it: how many LETTERS are the ENGINE's. BAD; STATE: none was kept.");
        bad("back", number -> x -> x.back(number), -1, 2, LEAST, MOST);
        NEW.leaves(CHECK, "back(0)", x -> x.back(0), TransferRings.STATE);
        NEW.leaves(CHECK, "back(1)", x -> x.back(1), TransferRings.STATE);
        MIDWAY.leaves(CHECK, "back(1)", x -> x.back(1), TransferRings.STATE);
        Rings x = new Rings();
        due("keep(0), of nothing", x.keep(0), 0);
        due("back(1)", x.back(1), TransferRings.STATE);
        Check.post(x, "l0 0 0 1 0 0 1 0 0 0;");
        due("back(0)", x.back(0), 0);
        due("count(0)", x.count(0), 0);
        due("SLOT 0 has no LETTER", x.slot(0, 0, 0), TransferRings.NONE);
        due("POST", x.channel(0, 3), 0);
    }

    private static void count() {
        CHECK.words("0 how many LETTERS are the ENGINE's, 1 how many WAIT, 2 which CHANNEL was GRANTED last, 3 SEEN, 4 letters of THE TEXT, 5 how many may be UNDONE, 6 TICKS that went by (they are counted with all of 2). BAD.");
        bad("count", number -> x -> x.count(number), -1, 7, -9, LEAST, MOST);
        int[][] want = {{0, 0, 3, 0, 5, 0, 0}, {3, 1, 2, 3, 5, 6, 3}, {6, 0, 1, 6, 120, 6, 1}};
        for (int i = 0; i < STATES.length; i++) {
            for (int what = 0; what <= 6; what++) {
                int asked = what;
                STATES[i].leaves(CHECK, NAMES[i] + "count(" + what + ")", x -> x.count(asked), want[i][what]);
            }
        }
        allRingsFull();
        // TICKS are undone and kept with all of 2.
        Rings x = Check.with("l0 0 0 1 0 0 1 0 0 0;l1 0 0 1 0 0 1 0 0 0;");
        x.keep(0);
        x.ticks(40);
        due("count(0)", x.count(0), 0);
        due("count(6)", x.count(6), 40);
        x.undo();
        due("count(6), undone", x.count(6), 0);
        x.ticks(9);
        x.back(0);
        due("count(6), back", x.count(6), 0);
        due("count(2), back", x.count(2), 3);
    }

    /** The most that can be the ENGINE's, by 509 calls. */
    private static void allRingsFull() {
        Rings x = new Rings();
        StringBuilder text = new StringBuilder();
        for (int i = 0; i < 24; i++) {
            text.append('l').append(i % 4).append(" 0 0 1 0 0 1 0 0 0;");
            if (i % 5 == 4 || i == 23) {
                Check.post(x, text.toString());
                text.setLength(0);
            }
        }
        due("count(0)", x.count(0), 24);
        due("keep(0)", x.keep(0), 24);
        due("ticks(40)", x.ticks(40), 24);
    }
}
