/** The edges that the document's part 1 names, of bytes, addresses, channels and letters. Each test quotes its words. */
public final class MemoryEdgesTest {
    private static final Check CHECK = new Check();
    private static final int[][] OF_LETTER = {{0, 3}, {0, 63}, {0, 63}, {1, 16}, {-9, 9}, {-9, 9}, {1, 4}, {-20, 20}, {-20, 20}, {0, 1}};
    private static final int[][] OF_BYTE = {{0, 63}, {0, 255}};
    private static final int[][] OF_CHANNEL = {{0, 3}, {0, 3}, {1, 8}};

    public static void main(String[] args) {
        the512thCall();
        bytesAtFirst();
        bytesTold();
        addressesGoRound();
        bytesAreCarriedRound();
        channelsAtFirst();
        ranksAndBurstsTold();
        ringsOfSixSlots();
        slotsAtFirst();
        numbersOfALetter();
        numbersBeyond();
        unitsOfALetter();
        rowsOfUnits();
        ownersAndStatus();
        CHECK.end("MemoryEdgesTest");
    }

    private static void due(String call, long got, long want) {
        CHECK.due(call, got, want);
    }

    private static void the512thCall() {
        CHECK.words("An object is used for at most 512 calls after it has been made");
        Rings ticked = new Rings();
        for (int i = 1; i < 512; i++) {
            ticked.ticks(40);
        }
        due("count(6), the 512th call", ticked.count(6), 511 * 40);
        Rings switched = new Rings();
        for (int i = 1; i <= 512; i++) {
            due("switches(2), call " + i, switched.switches(2), 1 - i % 2);
        }
        Rings undone = Check.with("f0 9;");
        for (int i = 0; i < 252; i++) {
            undone.ticks(1);
            due("undo()", undone.undo(), 1);
        }
        due("undo(), the 511th call", undone.undo(), 0);
        due("at(0), the 512th call", undone.at(0), 0);
        // Round and round the ring: 21 times 23 calls, as many letters posted and done.
        Rings ringed = new Rings();
        for (int i = 0; i < 21; i++) {
            due("posts(), letter " + i, Check.posted(ringed, "l0 0 0 1 0 0 1 0 0 0;"), 1);
            due("ticks(2)", ringed.ticks(2), 1);
        }
        due("TRANSFERS", ringed.channel(0, 6), 21);
        due("GRANTED", ringed.channel(0, 7), 21);
        due("HEAD", ringed.channel(0, 4), 21 % 6);
    }

    private static void bytesAtFirst() {
        CHECK.words("BYTES 0 to 63 (each 0 .. 255; BYTE k is k at first).");
        Rings x = new Rings();
        for (int k = 0; k <= 63; k++) {
            due("at(" + k + ")", x.at(k), k);
        }
        due("at(64)", x.at(64), TransferRings.BAD);
        due("at(-1)", x.at(-1), TransferRings.BAD);
    }

    private static void bytesTold() {
        CHECK.words("f A V (BYTE A becomes V)");
        Rings x = Check.with("f0 255;f63 0;f1 0;f62 255;f31 128;f32 127;");
        int[][] want = {{0, 255}, {63, 0}, {1, 0}, {62, 255}, {31, 128}, {32, 127}, {2, 2}, {61, 61}};
        for (int[] w : want) {
            due("at(" + w[0] + ")", x.at(w[0]), w[1]);
        }
        // 255 is carried as 255, and not below 0.
        Check.post(x, "l0 0 5 1 0 0 1 0 0 0;");
        x.ticks(1);
        due("at(5)", x.at(5), 255);
        due("the same BYTE twice in a text: the later one", Check.posted(x, "f7 1;f7 2;"), 2);
        due("at(7)", x.at(7), 2);
    }

    private static void addressesGoRound() {
        CHECK.words("ADDRESSES are reckoned modulo 64: an address v is Math.floorMod(v, 64).");
        // FROM, TO, N, a, b, r, u, v; the last UNIT's addresses ahead of going round.
        int[][] letters = {
            {62, 1, 2, 1, -1, 1, 0, 0, 63, 0}, {63, 0, 2, 1, -1, 1, 0, 0, 64, -1}, {55, 9, 2, 9, -9, 1, 0, 0, 64, 0},
            {54, 10, 2, 9, -9, 1, 0, 0, 63, 1}, {9, 55, 2, -9, 9, 1, 0, 0, 0, 64}, {8, 56, 2, -9, 9, 1, 0, 0, -1, 65},
            {44, 20, 1, 0, 0, 2, 20, -20, 64, 0}, {43, 19, 1, 0, 0, 2, 20, -20, 63, -1},
            {20, 44, 1, 0, 0, 2, -20, 20, 0, 64}, {19, 43, 1, 0, 0, 2, -20, 20, -1, 63},
            {63, 0, 16, 9, -9, 4, 20, -20, 63 + 135 + 60, -135 - 60}, {0, 63, 16, -9, 9, 4, -20, 20, -195, 258},
            {56, 61, 16, 8, -4, 1, 0, 0, 176, 1}, {63, 0, 16, -9, 9, 4, 20, -20, 63 - 135 + 60, 135 - 60},
            {4, 4, 15, -9, -9, 1, 0, 0, -122, -122}, {5, 6, 15, -9, -9, 1, 0, 0, -121, -120},
            {2, 1, 15, 9, 9, 1, 0, 0, 128, 127}, {0, 60, 1, 0, 0, 4, -20, 20, -60, 120}, {4, 8, 1, 0, 0, 4, 20, 20, 64, 68}};
        for (int[] l : letters) {
            Rings x = Check.with("l2 " + numbers(l, 0, 8) + "0;");
            int last = l[2] * l[5] - 1;
            String name = numbers(l, 0, 8);
            due("from, of " + name, x.unit(2, 0, last, 0), Math.floorMod(l[8], 64));
            due("to, of " + name, x.unit(2, 0, last, 1), Math.floorMod(l[9], 64));
        }
    }

    private static String numbers(int[] all, int first, int many) {
        StringBuilder text = new StringBuilder();
        for (int i = first; i < first + many; i++) {
            text.append(all[i]).append(' ');
        }
        return text.toString();
    }

    private static void bytesAreCarriedRound() {
        CHECK.words("UNIT k carries the BYTE at FROM + (k / N) * u + (k % N) * a to TO + (k / N) * v + (k % N) * b.");
        // From 62 63 0 1 to 1 0 63 62, each as it is by then.
        Rings x = Check.with("l3 62 1 4 1-1 1 0 0 0;");
        x.ticks(1);
        int[][] want = {{1, 62}, {0, 63}, {63, 63}, {62, 62}, {2, 2}, {61, 61}};
        for (int[] w : want) {
            due("at(" + w[0] + ")", x.at(w[0]), w[1]);
        }
        // Rows over either end: from 60 16 36 to 5 49 29.
        Rings rows = Check.with("l3 60 5 1 0 0 3 20-20 0;");
        rows.ticks(1);
        int[][] due = {{5, 60}, {49, 16}, {29, 36}, {60, 60}, {16, 16}, {36, 36}};
        for (int[] w : due) {
            due("at(" + w[0] + "), rows", rows.at(w[0]), w[1]);
        }
        due("lands at 63, over the end", Check.with("l0 0 1 4 0-1 1 0 0 0;").lands(63), 1);
        due("both: 62 63 0 1 and 0 63", Check.with("l0 0 62 4 0 1 1 0 0 0;l0 0 0 2 0-1 1 0 0 0;").both(0, 0, 0, 1), 2);
    }

    private static void channelsAtFirst() {
        CHECK.words("CHANNELS 0 to 3, each ON (1; at first) or off (0), of a RANK (0 .. 3; 0 at first), with a BURST (1 .. 8; 4 at first)");
        Rings x = new Rings();
        for (int c = 0; c <= 3; c++) {
            due("ON of " + c, x.channel(c, 0), 1);
            due("RANK of " + c, x.channel(c, 1), 0);
            due("BURST of " + c, x.channel(c, 2), 4);
            due("off, " + c, x.switches(c), 0);
            due("ON of " + c, x.channel(c, 0), 0);
            due("ON again, " + c, x.switches(c), 1);
            due("ON of " + c, x.channel(c, 0), 1);
        }
        due("no CHANNEL 4", x.channel(4, 0), TransferRings.BAD);
        due("no CHANNEL -1", x.channel(-1, 0), TransferRings.BAD);
    }

    private static void ranksAndBurstsTold() {
        CHECK.words("c C R B (RANK, BURST of CHANNEL C)");
        for (int c = 0; c <= 3; c++) {
            for (int rank = 0; rank <= 3; rank++) {
                for (int burst = 1; burst <= 8; burst++) {
                    Rings x = Check.with("c" + c + " " + rank + " " + burst + ";");
                    for (int other = 0; other <= 3; other++) {
                        due("RANK of " + other, x.channel(other, 1), other == c ? rank : 0);
                        due("BURST of " + other, x.channel(other, 2), other == c ? burst : 4);
                    }
                }
            }
        }
    }

    private static void ringsOfSixSlots() {
        CHECK.words("a RING of SLOTS 0 to 5, a POST and a HEAD (each the number of one of its SLOTS; 0 at first)");
        for (int c = 0; c <= 3; c++) {
            Rings x = new Rings();
            due("POST of " + c, x.channel(c, 3), 0);
            due("HEAD of " + c, x.channel(c, 4), 0);
            for (int i = 0; i < 8; i++) {
                Check.post(x, "l" + c + " 0 0 1 0 0 1 0 0 0;");
                due("POST of " + c, x.channel(c, 3), (i + 1) % 6);
                due("HEAD of " + c, x.channel(c, 4), i % 6);
                x.ticks(1);
                due("HEAD of " + c, x.channel(c, 4), (i + 1) % 6);
                due("waiting(0)", x.waiting(0), 8 * c + i % 6);
            }
            due("no SLOT 6", x.slot(c, 6, 0), TransferRings.BAD);
            due("no SLOT -1", x.slot(c, -1, 0), TransferRings.BAD);
        }
    }

    private static void slotsAtFirst() {
        CHECK.words("A SLOT has no LETTER (at first), or one.");
        Rings x = new Rings();
        for (int c = 0; c <= 3; c++) {
            for (int s = 0; s <= 5; s++) {
                for (int what = 0; what <= 5; what++) {
                    due("slot(" + c + ", " + s + ", " + what + ")", x.slot(c, s, what), TransferRings.NONE);
                }
                due("unit(" + c + ", " + s + ", 0, 0)", x.unit(c, s, 0, 0), TransferRings.NONE);
                due("both, with itself", x.both(c, s, c, s), TransferRings.NONE);
            }
        }
        Rings one = Check.with("l1 0 0 1 0 0 1 0 0 0;");
        due("the one", one.slot(1, 0, 0), 1);
        due("the SLOT behind", one.slot(1, 1, 0), TransferRings.NONE);
        due("the last SLOT of the CHANNEL ahead", one.slot(0, 5, 0), TransferRings.NONE);
        due("both, the second has none", one.both(1, 0, 1, 1), TransferRings.NONE);
        due("both, the first has none", one.both(1, 1, 1, 0), TransferRings.NONE);
    }

    private static void numbersOfALetter() {
        CHECK.words("A LETTER: FROM, TO (0 .. 63 each), N (1 .. 16), STEPS a, b (-9 .. 9), ROWS r (1 .. 4), SKIPS u, v (-20 .. 20), CHAINED (1) or not (0).");
        for (int i = 0; i < OF_LETTER.length; i++) {
            for (int end = 0; end <= 1; end++) {
                int[] told = {1, 10, 20, 3, 2, -1, 2, 7, -5, 0};
                told[i] = OF_LETTER[i][end];
                told(told);
            }
        }
        int[] least = new int[10];
        int[] most = new int[10];
        for (int i = 0; i < 10; i++) {
            least[i] = OF_LETTER[i][0];
            most[i] = OF_LETTER[i][1];
        }
        told(least);
        told(most);
    }

    /** A letter has come to be just as it was told. */
    private static void told(int[] t) {
        String name = "l " + numbers(t, 0, 10) + ";";
        Rings x = new Rings();
        due("posts of " + name, Check.posted(x, name), 1);
        int units = t[3] * t[6];
        due("UNITS of " + name, x.slot(t[0], 0, 3), units);
        due("RESIDUE of " + name, x.slot(t[0], 0, 2), units);
        due("CHAINED of " + name, x.slot(t[0], 0, 4), t[9]);
        for (int k = 0; k < units; k++) {
            int row = k / t[3];
            int column = k % t[3];
            due(k + " from, " + name, x.unit(t[0], 0, k, 0), Math.floorMod(t[1] + row * t[7] + column * t[4], 64));
            due(k + " to, " + name, x.unit(t[0], 0, k, 1), Math.floorMod(t[2] + row * t[8] + column * t[5], 64));
        }
        due("no more UNITS, " + name, x.unit(t[0], 0, units, 0), TransferRings.NONE);
    }

    private static void numbersBeyond() {
        CHECK.words("(a NUMBER beyond what it may be, too; C 0 .. 3)");
        beyond('l', OF_LETTER, new int[] {1, 10, 20, 3, 2, -1, 2, 7, -5, 0});
        beyond('f', OF_BYTE, new int[] {10, 200});
        beyond('c', OF_CHANNEL, new int[] {1, 2, 5});
    }

    /** Every number just within its ends is taken, just beyond them it is the FAULT, and nothing changes. */
    private static void beyond(char kind, int[][] ends, int[] base) {
        String ahead = "f1 99;l3 0 0 1 0 0 1 0 0 0;";
        for (int i = 0; i < ends.length; i++) {
            int[] tried = {ends[i][0], ends[i][1], ends[i][0] - 1, ends[i][1] + 1, -999, 999};
            for (int t = 0; t < tried.length; t++) {
                int[] numbers = base.clone();
                numbers[i] = tried[t];
                String text = ahead + kind + numbers(numbers, 0, numbers.length) + ";";
                int place = ahead.length() + 1 + numbers(numbers, 0, i).length();
                if (t < 2) {
                    due("posts of " + text, Check.posted(new Rings(), text), 3);
                } else {
                    new State(States.midway(text)).leaves(CHECK, "posts of " + text, Rings::posts, -10 - place);
                }
            }
        }
    }

    private static void unitsOfALetter() {
        CHECK.words("It has N times r UNITS, 0, 1, ..");
        for (int n = 1; n <= 16; n++) {
            for (int r = 1; r <= 4; r++) {
                Rings x = Check.with("l0 0 0 " + n + " 1 1 " + r + " 0 0 0;");
                String name = n + " times " + r;
                due("UNITS, " + name, x.slot(0, 0, 3), n * r);
                due("the last UNIT, " + name, x.unit(0, 0, n * r - 1, 1), n - 1);
                due("one behind the last, " + name, x.unit(0, 0, n * r, 1), TransferRings.NONE);
            }
        }
    }

    private static void rowsOfUnits() {
        CHECK.words("UNIT k carries the BYTE at FROM + (k / N) * u + (k % N) * a to TO + (k / N) * v + (k % N) * b.");
        // N 5, 3 rows: the last of a row, and the first of the next.
        Rings x = Check.with("l0 1 2 5 1 2 3 20-13 0;");
        int[][] want = {{0, 1, 2}, {4, 5, 10}, {5, 21, 53}, {9, 25, 61}, {10, 41, 40}, {14, 45, 48}};
        for (int[] w : want) {
            due("from, UNIT " + w[0], x.unit(0, 0, w[0], 0), w[1]);
            due("to, UNIT " + w[0], x.unit(0, 0, w[0], 1), w[2]);
        }
        // A burst that goes over the end of a row: 5 of 6 units, then the one left.
        Rings y = Check.with("l0 0 32 3 1 1 2 10 10 0;c0 0 5;");
        y.ticks(1);
        int[][] carried = {{32, 0}, {34, 2}, {35, 35}, {42, 10}, {43, 11}, {44, 44}};
        for (int[] w : carried) {
            due("at(" + w[0] + ")", y.at(w[0]), w[1]);
        }
        y.ticks(1);
        due("at(44)", y.at(44), 12);
    }

    private static void ownersAndStatus() {
        CHECK.words("Its OWNER is the ENGINE (1) or the HOST (0), its STATUS 0 posted, 1 done, 2 cancelled; it has a RESIDUE: how many of its UNITS have not been carried; it WAITS or not.");
        Rings x = Check.with("l2 0 32 9 1 1 1 0 0 0;l2 0 32 9 1 1 1 0 0 0;");
        stands(x, 0, 1, 0, 9, 0);
        x.ticks(1);
        stands(x, 0, 1, 0, 5, 0);
        x.ticks(1);
        stands(x, 0, 1, 0, 1, 0);
        x.ticks(1);
        stands(x, 0, 1, 0, 0, 1);
        stands(x, 1, 1, 0, 9, 0);
        x.ticks(1);
        stands(x, 0, 0, 1, 0, 0);
        stands(x, 1, 1, 0, 5, 0);
        x.cancels(2);
        stands(x, 0, 0, 1, 0, 0);
        stands(x, 1, 0, 2, 5, 0);
    }

    private static void stands(Rings x, int slot, int owner, int status, int residue, int waits) {
        int[] want = {owner, status, residue, 9, 0, waits};
        for (int what = 0; what <= 5; what++) {
            due("slot(2, " + slot + ", " + what + ")", x.slot(2, slot, what), want[what]);
        }
    }
}
