/** Promises 16 to 25: over, lands, enough, granted; sees, forget, ranks; keep, back, count. */
public final class AheadTest {
    private static final Check CHECK = new Check();

    public static void main(String[] args) {
        over();
        overAtItsEdge();
        lands();
        enough();
        granted();
        sees();
        forget();
        ranks();
        ranksAreOfWhenItIsAsked();
        keep();
        back();
        count();
        CHECK.end("AheadTest");
    }

    private static void due(String call, long got, long want) {
        CHECK.due(call, got, want);
    }

    private static void over() {
        CHECK.about("promise 16");
        Rings x = Check.with("l0 0 8 6 1 1 1 0 0 0;l1 0 8 4 1 1 1 0 0 0;");
        due("over(-1)", x.over(-1), TransferRings.BAD);
        due("over(4)", x.over(4), TransferRings.BAD);
        // 0, 1 (ends), 0 (ends; 1 written back), 0 written back.
        due("over(0)", x.over(0), 4);
        due("over(1)", x.over(1), 3);
        due("over(2)", x.over(2), 0);
        x.switches(0);
        due("over(0), off", x.over(0), TransferRings.NONE);
        due("over(1), alone", x.over(1), 2);
        x.ticks(1);
        x.switches(1);
        due("over(1), off while its last WAITS", x.over(1), 1);
        x.switches(0);
        x.tunes(0, 0, 1);
        due("over(0), by 1", x.over(0), 7);
        x.ticks(7);
        due("all over", x.over(0), 0);
    }

    private static void overAtItsEdge() {
        CHECK.about("promise 16, 200");
        String units64 = "l0 0 8 16 1 1 4 0 0 0;";
        // 64 * 3 + 7 UNITS one by one, the last written back in the 200th TICK.
        Rings x = Check.with("c0 0 1;" + units64.repeat(3) + "l0 0 8 7 1 1 1 0 0 0;");
        due("over(0)", x.over(0), 200);
        due("enough(0, 200)", x.enough(0, 200), 1);
        due("enough(0, 199)", x.enough(0, 199), 2);
        Rings y = Check.with("c0 0 1;" + units64.repeat(3) + "l0 0 8 8 1 1 1 0 0 0;");
        due("over(0), 201", y.over(0), TransferRings.NONE);
        due("enough(0, 200)", y.enough(0, 200), 2);
        y.ticks(1);
        due("over(0), a TICK later", y.over(0), 200);
    }

    private static void lands() {
        CHECK.about("promise 17");
        // To 8 8 8, then 28 28 28; to 8 9 10; to 8 off.
        Rings x = Check.with("l0 0 8 3 1 0 2 0 20 0;l1 0 8 3 1 1 1 0 0 0;l2 0 8 1 1 1 1 0 0 0;");
        due("lands(-1)", x.lands(-1), TransferRings.BAD);
        due("lands(64)", x.lands(64), TransferRings.BAD);
        x.switches(2);
        due("lands(8)", x.lands(8), 5);
        due("lands(28)", x.lands(28), 3);
        due("lands(10)", x.lands(10), 1);
        due("lands(0)", x.lands(0), 0);
        due("lands(63)", x.lands(63), 0);
        x.ticks(1);
        due("lands(8), 4 UNITS later", x.lands(8), 2);
        due("lands(28), 4 UNITS later", x.lands(28), 2);
        x.ticks(1);
        due("lands(8), one WAITS", x.lands(8), 1);
        x.cancels(0);
        due("lands(28), cancelled", x.lands(28), 0);
        due("lands(8), off", x.lands(8), 1);
    }

    private static void enough() {
        CHECK.about("promise 18");
        Rings x = Check.with("l0 0 8 6 1 1 1 0 0 0;l1 0 8 6 1 1 1 0 0 0;c0 1 1;");
        due("enough(-1, 0)", x.enough(-1, 0), TransferRings.BAD);
        due("enough(4, 0)", x.enough(4, 0), TransferRings.BAD);
        due("enough(0, -1)", x.enough(0, -1), TransferRings.BAD);
        due("enough(0, 201)", x.enough(0, 201), TransferRings.BAD);
        // With 0 ahead of 1 by RANK: 6 / BURST, rounded up, and one TICK more.
        int[] want = {-9, -9, 6, 3, 2, 2, 2, 1, 1};
        for (int n = 0; n < want.length; n++) {
            due("enough(0, " + n + ")", x.enough(0, n), want[n]);
        }
        due("BURST is as it was", x.channel(0, 2), 1);
        due("enough(1, 9): 6 TICKS of 0, 2, 1", x.enough(1, 9), 3);
        due("enough(1, 8)", x.enough(1, 8), 6);
        due("enough(1, 7)", x.enough(1, 7), TransferRings.NONE);
        due("enough(2, 0): it is over", x.enough(2, 0), 1);
        Rings far = Check.with("l0 0 8 15 1 1 1 0 0 0;");
        due("8 is needed", far.enough(0, 3), 8);
        due("7 is not", far.enough(0, 4), 5);
        due("more would be", far.enough(0, 2), TransferRings.NONE);
        far.switches(0);
        due("off", far.enough(0, 200), TransferRings.NONE);
    }

    private static void granted() {
        CHECK.about("promise 19");
        Rings x = Check.with("l0 0 8 6 1 1 1 0 0 0;l2 0 8 9 1 1 1 0 0 0;l3 0 8 5 1 1 1 0 0 0;c3 1 4;");
        due("granted(0)", x.granted(0), TransferRings.BAD);
        due("granted(41)", x.granted(41), TransferRings.BAD);
        due("granted(-1)", x.granted(-1), TransferRings.BAD);
        int[] want = {3, 3, 0, 2, 0, 2, 2, -9, -9};
        for (int k = 1; k <= want.length; k++) {
            due("granted(" + k + ")", x.granted(k), want[k - 1]);
        }
        due("granted(40)", x.granted(40), TransferRings.NONE);
        x.ticks(2);
        for (int k = 3; k <= want.length; k++) {
            due("granted(" + k + ") two TICKS later", x.granted(k - 2), want[k - 1]);
        }
        due("bytes are not carried", x.at(8), 0);
        due("nor counted", x.count(6), 2);
        Rings busy = Check.with("c1 0 1;l1 0 8 10 1 1 4 0 0 0;");
        due("granted(40), the last UNIT", busy.granted(40), 1);
        due("bytes are not carried", busy.at(9), 9);
    }

    private static void sees() {
        CHECK.about("promise 20");
        Rings x = new Rings();
        int[][] bad = {{0, 0}, {41, 0}, {-1, 0}, {1, -1}, {1, 4}, {1, -2}, {1, -3}, {1, -8}, {1, -10}};
        for (int[] b : bad) {
            due("sees(" + b[0] + ", " + b[1] + ")", x.sees(b[0], b[1]), TransferRings.BAD);
        }
        due("sees(1, 0)", x.sees(1, 0), 1);
        due("sees(40, 3)", x.sees(40, 3), 2);
        due("sees(40, NONE)", x.sees(40, TransferRings.NONE), 3);
        due("sees(1, 0) again", x.sees(1, 0), 4);
        due("sees(2, 1)", x.sees(2, 1), 5);
        due("sees(3, 2)", x.sees(3, 2), 6);
        due("the seventh", x.sees(3, 2), TransferRings.FULL);
        due("BAD goes ahead of FULL", x.sees(0, 2), TransferRings.BAD);
        due("count(3)", x.count(3), 6);
        due("it can't be undone", x.count(5), 0);
    }

    private static void forget() {
        CHECK.about("promise 21");
        Rings x = new Rings();
        due("forget", x.forget(), 0);
        x.sees(1, 0);
        x.sees(2, 0);
        due("ranks", x.ranks(0), 0);
        due("forget", x.forget(), 2);
        due("count(3)", x.count(3), 0);
        due("ranks", x.ranks(0), 15);
        due("sees", x.sees(1, TransferRings.NONE), 1);
        due("ranks", x.ranks(0), 15);
    }

    private static void ranks() {
        CHECK.about("promise 22");
        Rings x = Check.with("l0 0 8 8 1 1 1 0 0 0;l1 0 8 8 1 1 1 0 0 0;c0 2 4;c1 1 4;");
        due("ranks(-1)", x.ranks(-1), TransferRings.BAD);
        due("ranks(4)", x.ranks(4), TransferRings.BAD);
        due("nothing SEEN", x.ranks(0), 15);
        x.sees(1, 1);
        due("1 ahead of 0 of RANK 2", x.ranks(1), 8);
        due("0 behind 1 of RANK 1", x.ranks(0), 1);
        due("of one without a LETTER", x.ranks(2), 0);
        x.sees(4, 0);
        due("1 ahead of 0, 0 at last", x.ranks(1), 8);
        due("0 behind 1, 0 at last", x.ranks(0), 1);
        x.sees(5, TransferRings.NONE);
        due("nobody then", x.ranks(1), 8);
        due("RANK is as it was", x.channel(1, 1), 1);
        x.sees(2, 0);
        due("not 0 ahead of the end of 1", x.ranks(1), 0);
        x.forget();
        x.sees(1, 0);
        x.sees(2, 1);
        due("in turn: the same RANK alone", x.ranks(0), 2);
        due("in turn: the same RANK alone", x.ranks(1), 4);
        due("of one without a LETTER", x.ranks(3), 0);
        x.forget();
        x.sees(40, TransferRings.NONE);
        due("nobody in the 40th", x.ranks(0), 15);
        x.sees(40, 0);
        due("two of one TICK that differ", x.ranks(0), 0);
        x.forget();
        int[] who = {0, 0, 1, 1, TransferRings.NONE};
        for (int k = 1; k <= who.length; k++) {
            due("ranks(0) with " + (k - 1) + " SEEN", x.ranks(0), k == 1 ? 15 : k == 2 ? 14 : 12);
            x.sees(k, who[k - 1]);
        }
        due("sees, the sixth", x.sees(39, TransferRings.NONE), 6);
        due("ranks(0) with six SEEN", x.ranks(0), 12);
        due("ranks(1) with six SEEN", x.ranks(1), 3);
    }

    private static void ranksAreOfWhenItIsAsked() {
        CHECK.about("promise 22, all else as it is when this is asked");
        Rings x = Check.with("l0 0 8 8 1 1 1 0 0 0;l1 0 8 8 1 1 1 0 0 0;");
        x.sees(1, 1);
        due("0 is first in turn", x.ranks(1), 14);
        x.ticks(1);
        due("1 is first in turn", x.ranks(1), 15);
        x.switches(1);
        due("1 is off", x.ranks(1), 0);
        due("1 is off", x.ranks(0), 0);
        x.undo();
        x.undo();
        due("SEEN stays", x.ranks(1), 14);
    }

    private static void keep() {
        CHECK.about("promise 23");
        Rings x = Check.with("l0 0 8 8 1 1 1 0 0 0;l1 0 8 8 1 1 1 0 0 0;");
        due("keep(-1)", x.keep(-1), TransferRings.BAD);
        due("keep(2)", x.keep(2), TransferRings.BAD);
        due("back(0)", x.back(0), TransferRings.STATE);
        due("keep(1)", x.keep(1), 2);
        due("back(0) still", x.back(0), TransferRings.STATE);
        due("count(5)", x.count(5), 1);
        x.cancels(0);
        due("keep(0)", x.keep(0), 1);
        x.cancels(1);
        due("keep(0) anew", x.keep(0), 0);
        due("back(0)", x.back(0), 0);
        due("back(1)", x.back(1), 2);
        x.ticks(2);
        x.ticks(1);
        due("with one that WAITS", x.keep(0), 2);
    }

    private static void back() {
        CHECK.about("promise 24");
        State.Steps kept = y -> {
            Check.post(y, "l0 0 8 8 1 1 1 0 0 0;l1 3 9 6 2 1 2 1 1 1;f3 99;c2 1 2;");
            y.ticks(3);
            y.switches(3);
        };
        Rings x = new Rings();
        kept.in(x);
        x.keep(1);
        due("back(-1)", x.back(-1), TransferRings.BAD);
        due("back(2)", x.back(2), TransferRings.BAD);
        due("back(0)", x.back(0), TransferRings.STATE);
        due("a refused back() loses nothing", x.count(5), 3);
        x.ticks(2);
        Check.posted(x, "f60 1;l3 0 0 1 1 1 1 0 0 0;");
        x.cancels(1);
        x.tunes(0, 3, 8);
        x.sees(7, 2);
        Check.typed(x, "f1");
        due("back(1)", x.back(1), 2);
        due("nothing can be UNDONE", x.undo(), TransferRings.STATE);
        due("count(5)", x.count(5), 0);
        due("SEEN stays", x.count(3), 1);
        due("THE TEXT stays", x.count(4), 2);
        x.ticks(40);
        due("count(5)", x.count(5), 1);
        due("back(1) again", x.back(1), 2);
        due("the other IMAGE", x.back(0), TransferRings.STATE);
        CHECK.holds("all is as it was kept", State.enginesAlike(kept, State.behind(kept, y -> {
            y.keep(1);
            y.ticks(2);
            Check.post(y, "f60 1;l3 0 0 1 1 1 1 0 0 0;");
            y.cancels(1);
            y.tunes(0, 3, 8);
            y.back(1);
            y.ticks(40);
            y.back(1);
        })));
    }

    private static void count() {
        CHECK.about("promise 25");
        Rings x = Check.with("l0 0 8 8 1 1 1 0 0 0;l1 0 8 4 1 1 1 0 0 0;");
        x.ticks(2);
        x.sees(1, 0);
        x.sees(1, 0);
        Check.typed(x, "abcde");
        int[] want = {2, 1, 1, 2, 5, 2, 2};
        for (int what = 0; what < want.length; what++) {
            due("count(" + what + ")", x.count(what), want[what]);
        }
        due("count(-1)", x.count(-1), TransferRings.BAD);
        due("count(7)", x.count(7), TransferRings.BAD);
        due("count(MIN)", x.count(Integer.MIN_VALUE), TransferRings.BAD);
        x.keep(0);
        x.ticks(40);
        due("TICKS", x.count(6), 42);
        due("GRANTED last", x.count(2), 0);
        due("the ENGINE's", x.count(0), 0);
        x.undo();
        due("TICKS are undone", x.count(6), 2);
        due("GRANTED last is undone", x.count(2), 1);
        x.ticks(7);
        x.back(0);
        due("TICKS are kept", x.count(6), 2);
        due("GRANTED last is kept", x.count(2), 1);
    }
}
