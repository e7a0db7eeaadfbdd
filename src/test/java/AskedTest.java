/** Promises 10 to 15: at, channel, slot, unit, waiting, both. */
public final class AskedTest {
    private static final Check CHECK = new Check();

    public static void main(String[] args) {
        at();
        channel();
        slot();
        unit();
        waiting();
        both();
        CHECK.end("AskedTest");
    }

    private static void due(String call, long got, long want) {
        CHECK.due(call, got, want);
    }

    private static void at() {
        CHECK.about("promise 10");
        Rings x = Check.with("f0 255;f63 0;");
        due("at(0)", x.at(0), 255);
        due("at(63)", x.at(63), 0);
        due("at(62)", x.at(62), 62);
        due("at(-1)", x.at(-1), TransferRings.BAD);
        due("at(64)", x.at(64), TransferRings.BAD);
        due("at(MIN)", x.at(Integer.MIN_VALUE), TransferRings.BAD);
        due("at(MAX)", x.at(Integer.MAX_VALUE), TransferRings.BAD);
    }

    private static void channel() {
        CHECK.about("promise 11");
        Rings x = Check.with("l2 0 8 3 1 1 3 0 0 0;l2 0 8 1 1 1 1 0 0 0;c2 3 8;");
        int[] posted = {1, 3, 8, 2, 0, 9, 0, 0, 1};
        all(x, posted);
        x.ticks(1);
        all(x, new int[] {1, 3, 8, 2, 0, 1, 0, 1, 1});
        x.ticks(1);
        all(x, new int[] {1, 3, 8, 2, 1, 1, 0, 2, 1});
        x.ticks(1);
        all(x, new int[] {1, 3, 8, 2, 2, 0, 1, 3, 0});
        x.ticks(1);
        all(x, new int[] {1, 3, 8, 2, 2, 0, 2, 3, 0});
        x.switches(2);
        all(x, new int[] {0, 3, 8, 2, 2, 0, 2, 3, 0});
        Check.posted(x, "l2 0 8 3 1 1 3 0 0 0;");
        all(x, new int[] {0, 3, 8, 3, 2, 9, 2, 3, 0});
        int[][] bad = {{-1, 0}, {4, 0}, {0, -1}, {0, 9}, {4, 9},
            {Integer.MIN_VALUE, 0}, {0, Integer.MAX_VALUE}};
        for (int[] b : bad) {
            due("channel(" + b[0] + ", " + b[1] + ")", x.channel(b[0], b[1]), TransferRings.BAD);
        }
    }

    private static void all(Rings x, int[] want) {
        for (int what = 0; what < want.length; what++) {
            due("channel(2, " + what + ")", x.channel(2, what), want[what]);
        }
    }

    private static void slot() {
        CHECK.about("promise 12");
        Rings x = Check.with("l3 0 8 3 1 1 2 0 0 1;l3 0 8 16 1 1 4 0 0 0;");
        slots(x, 0, new int[] {1, 0, 6, 6, 1, 0});
        slots(x, 1, new int[] {1, 0, 64, 64, 0, 0});
        x.ticks(1);
        slots(x, 0, new int[] {1, 0, 2, 6, 1, 0});
        x.ticks(1);
        slots(x, 0, new int[] {1, 0, 0, 6, 1, 1});
        x.ticks(1);
        slots(x, 0, new int[] {0, 1, 0, 6, 1, 0});
        slots(x, 1, new int[] {1, 0, 60, 64, 0, 0});
        x.cancels(3);
        slots(x, 1, new int[] {0, 2, 60, 64, 0, 0});
        for (int what = 0; what < 6; what++) {
            due("slot(3, 2, " + what + ")", x.slot(3, 2, what), TransferRings.NONE);
        }
        int[][] bad = {{-1, 0, 0}, {4, 0, 0}, {3, -1, 0}, {3, 6, 0}, {3, 0, -1}, {3, 0, 6}, {3, 2, 6}, {3, 2, -1}};
        for (int[] b : bad) {
            due("slot(" + b[0] + ", " + b[1] + ", " + b[2] + ")", x.slot(b[0], b[1], b[2]), TransferRings.BAD);
        }
    }

    private static void slots(Rings x, int slot, int[] want) {
        for (int what = 0; what < want.length; what++) {
            due("slot(3, " + slot + ", " + what + ")", x.slot(3, slot, what), want[what]);
        }
    }

    private static void unit() {
        CHECK.about("promise 13");
        // N 3, steps 9 and -9, 4 rows, skips -20 and 20.
        Rings x = Check.with("l0 5 60 3 9-9 4-20 20 0;");
        int[] from = {5, 14, 23, 49, 58, 3, 29, 38, 47, 9, 18, 27};
        int[] to = {60, 51, 42, 16, 7, 62, 36, 27, 18, 56, 47, 38};
        for (int round = 0; round < 2; round++) {
            for (int k = 0; k < 12; k++) {
                due("unit(0, 0, " + k + ", 0)", x.unit(0, 0, k, 0), from[k]);
                due("unit(0, 0, " + k + ", 1)", x.unit(0, 0, k, 1), to[k]);
            }
            x.ticks(20);
        }
        due("of the HOST's by now", x.slot(0, 0, 0), 0);
        due("k above all", x.unit(0, 0, 12, 0), TransferRings.NONE);
        due("k far above all", x.unit(0, 0, Integer.MAX_VALUE, 1), TransferRings.NONE);
        due("no LETTER", x.unit(0, 1, 0, 0), TransferRings.NONE);
        int[][] bad = {{-1, 0, 0, 0}, {4, 0, 0, 0}, {0, -1, 0, 0}, {0, 6, 0, 0}, {0, 0, -1, 0},
            {0, 0, Integer.MIN_VALUE, 0}, {0, 0, 0, -1}, {0, 0, 0, 2}, {0, 1, -1, 0}, {0, 1, 0, 2}, {0, 0, 12, 2}};
        for (int[] b : bad) {
            due("unit(" + b[0] + ", " + b[1] + ", " + b[2] + ", " + b[3] + ")",
                    x.unit(b[0], b[1], b[2], b[3]), TransferRings.BAD);
        }
        // The farthest addresses on either side of 0 .. 63.
        Rings far = Check.with("l1 63 0 16 9-9 4 20-20 0;");
        due("farthest up", far.unit(1, 0, 63, 0), (63 + 60 + 135) % 64);
        due("farthest down", far.unit(1, 0, 63, 1), 256 - 60 - 135);
        Rings one = Check.with("l1 7 9 1 3 3 1 5 5 0;");
        due("the only UNIT", one.unit(1, 0, 0, 1), 9);
        due("one more", one.unit(1, 0, 1, 1), TransferRings.NONE);
    }

    private static void waiting() {
        CHECK.about("promise 14");
        Rings x = Check.with("l0 0 8 1 1 1 1 0 0 0;l3 0 8 1 1 1 1 0 0 0;l3 0 8 1 1 1 1 0 0 0;");
        due("waiting(-1)", x.waiting(-1), TransferRings.BAD);
        due("waiting(MIN)", x.waiting(Integer.MIN_VALUE), TransferRings.BAD);
        due("waiting(0)", x.waiting(0), TransferRings.NONE);
        int[] want = {0, 24, 25, TransferRings.NONE};
        for (int w : want) {
            x.ticks(1);
            due("waiting(0)", x.waiting(0), w);
            due("waiting(1)", x.waiting(1), TransferRings.NONE);
        }
        due("waiting(24)", x.waiting(24), TransferRings.NONE);
        due("waiting(MAX)", x.waiting(Integer.MAX_VALUE), TransferRings.NONE);
    }

    private static void both() {
        CHECK.about("promise 15");
        // Writes 10 .. 15; 14 .. 19; 62 63 0 1 twice over; 12 alone, five times.
        Rings x = Check.with("l0 0 10 6 1 1 1 0 0 0;l0 0 14 6 1 1 1 0 0 0;",
                "l1 0 62 4 1 1 2 0 0 0;l2 0 12 5 1 0 1 0 0 0;");
        for (int round = 0; round < 2; round++) {
            due("two and two", x.both(0, 0, 0, 1), 2);
            due("the other way", x.both(0, 1, 0, 0), 2);
            due("with itself", x.both(0, 0, 0, 0), 6);
            due("with itself, twice over", x.both(1, 0, 1, 0), 4);
            due("one ADDRESS many times", x.both(2, 0, 2, 0), 1);
            due("of two CHANNELS", x.both(0, 0, 2, 0), 1);
            due("none", x.both(0, 0, 1, 0), 0);
            // The second time they are the HOST's.
            x.ticks(30);
        }
        due("no LETTER", x.both(0, 0, 0, 5), TransferRings.NONE);
        due("no LETTER", x.both(0, 5, 0, 0), TransferRings.NONE);
        due("no LETTER at all", x.both(3, 5, 3, 5), TransferRings.NONE);
        int[][] bad = {{-1, 0, 0, 0}, {4, 0, 0, 0}, {0, -1, 0, 0}, {0, 6, 0, 0},
            {0, 0, -1, 0}, {0, 0, 4, 0}, {0, 0, 0, -1}, {0, 0, 0, 6}, {3, 5, 0, 6}};
        for (int[] b : bad) {
            due("both(" + b[0] + ", " + b[1] + ", " + b[2] + ", " + b[3] + ")",
                    x.both(b[0], b[1], b[2], b[3]), TransferRings.BAD);
        }
        Rings all = Check.with("l0 0 0 16 1 1 4 0 16 0;");
        due("all ADDRESSES", all.both(0, 0, 0, 0), 64);
        Rings skips = Check.with("l0 0 0 2 1 1 1 9 20 0;");
        due("no row behind the last", skips.both(0, 0, 0, 0), 2);
    }
}
