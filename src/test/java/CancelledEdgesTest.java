/** The edges that the document's part 2 names of CANCELLED, DONE and UNDONE. Each test quotes its words. */
public final class CancelledEdgesTest {
    private static final Check CHECK = new Check();

    public static void main(String[] args) {
        withoutAPresentLetter();
        waitingOnesAreWrittenBack();
        aloneOrChained();
        allSix();
        overTheEndOfTheRing();
        chainedToNothing();
        chainedToOneOfTheHosts();
        withTheirResidue();
        headIsBehindTheLast();
        undoneEachKind();
        undoneOfNothing();
        refusedIsNotUndone();
        sixAreKnown();
        undoneAndDoneAnew();
        allButTheText();
        CHECK.end("CancelledEdgesTest");
    }

    private static void due(String call, long got, long want) {
        CHECK.due(call, got, want);
    }

    private static String letter(int channel, int units, int chained) {
        return "l" + channel + " 0 32 " + units + " 1 1 1 0 0 " + chained + ";";
    }

    /** The ring of channel 1 with letters of one unit gone through it, so that POST and HEAD are at a slot. */
    private static Rings from(int slot) {
        Rings x = new Rings();
        for (int i = 0; i < slot; i++) {
            Check.post(x, letter(1, 1, 0));
            x.ticks(2);
        }
        return x;
    }

    private static void statuses(Rings x, int channel, int... want) {
        for (int s = 0; s < want.length; s++) {
            due("STATUS, SLOT " + s, x.slot(channel, s, 1), want[s]);
            due("OWNER, SLOT " + s, x.slot(channel, s, 0), want[s] == 0 ? 1 : want[s] < 0 ? want[s] : 0);
        }
    }

    private static void withoutAPresentLetter() {
        CHECK.words("STATE: it has no PRESENT LETTER.");
        for (int c = 0; c <= 3; c++) {
            int channel = c;
            new State(States.fresh("f9 9;")).leaves(CHECK, "cancels(" + c + ")", x -> x.cancels(channel), TransferRings.STATE);
            if (c % 2 == 1) {
                new State(States.midway("f9 9;")).leaves(CHECK, "cancels(" + c + ")", x -> x.cancels(channel), TransferRings.STATE);
            }
        }
        // One that WAITS is all there is: it goes on waiting.
        State.Steps waits = x -> {
            Check.post(x, letter(2, 4, 1));
            x.ticks(1);
        };
        new State(waits).leaves(CHECK, "cancels(2)", x -> x.cancels(2), TransferRings.STATE);
    }

    private static void waitingOnesAreWrittenBack() {
        CHECK.words("first all LETTERS of it that WAIT are WRITTEN BACK, the one that has WAITED longest first.");
        for (int chained = 0; chained <= 1; chained++) {
            Rings x = Check.with(letter(1, 4, chained) + letter(1, 5, 0));
            x.ticks(1);
            due("waiting(0)", x.waiting(0), 8);
            due("cancels(1)", x.cancels(1), 5);
            due("none WAITS", x.count(1), 0);
            due("waiting(0)", x.waiting(0), TransferRings.NONE);
            due("TRANSFERS, CHAINED " + chained, x.channel(1, 6), 1 - chained);
            statuses(x, 1, 1, 2, -9);
            due("WAITS", x.slot(1, 0, 5), 0);
            due("ticks(1)", x.ticks(1), 0);
            due("TRANSFERS, not twice", x.channel(1, 6), 1 - chained);
        }
        // Of another CHANNEL: it WAITS still.
        Rings y = Check.with(letter(0, 4, 0) + letter(1, 5, 1));
        y.ticks(1);
        due("cancels(1)", y.cancels(1), 5);
        due("waiting(0)", y.waiting(0), 0);
        due("OWNER", y.slot(0, 0, 0), 1);
        due("TRANSFERS", y.channel(0, 6), 0);
        y.ticks(1);
        due("TRANSFERS", y.channel(0, 6), 1);
    }

    private static void aloneOrChained() {
        CHECK.words("Then its PRESENT LETTER, and, as long as the one cancelled last is CHAINED, that of the next SLOT");
        // 0: alone; 1 and more: so many CHAINED ones, and the one that they lead to.
        for (int chained = 0; chained <= 4; chained++) {
            Rings x = new Rings();
            int sum = 0;
            for (int i = 0; i <= chained; i++) {
                Check.post(x, letter(1, i + 2, i < chained ? 1 : 0));
                sum += i + 2;
            }
            Check.post(x, letter(1, 9, 0));
            due("cancels(1), CHAINED " + chained, x.cancels(1), sum);
            due("HEAD", x.channel(1, 4), chained + 1);
            for (int s = 0; s <= chained; s++) {
                due("STATUS, SLOT " + s, x.slot(1, s, 1), 2);
                due("OWNER, SLOT " + s, x.slot(1, s, 0), 0);
            }
            due("STATUS behind", x.slot(1, chained + 1, 1), 0);
            due("OWNER behind", x.slot(1, chained + 1, 0), 1);
            due("the next is PRESENT", x.channel(1, 5), 9);
            due("the ENGINE's", x.count(0), 1);
        }
    }

    private static void allSix() {
        CHECK.words("if it is the ENGINE's and was not cancelled just now, become the HOST's, cancelled, with their RESIDUE");
        for (int first = 0; first <= 5; first++) {
            Rings x = from(first);
            Check.post(x, letter(1, 2, 1).repeat(5), letter(1, 3, 1));
            due("POST", x.channel(1, 3), first);
            due("cancels(1), each once", x.cancels(1), 13);
            due("HEAD", x.channel(1, 4), first);
            statuses(x, 1, 2, 2, 2, 2, 2, 2);
            due("the ENGINE's", x.count(0), 0);
            due("cancels(1) again", x.cancels(1), TransferRings.STATE);
            due("posts", Check.posted(x, letter(1, 7, 0)), 1);
            due("PRESENT", x.channel(1, 5), 7);
        }
        // The most that can be left.
        String most = "l1 0 0 16 1 1 4 0 0 1;";
        Rings y = Check.with(most.repeat(5), most);
        due("cancels(1)", y.cancels(1), 6 * 64);
    }

    private static void overTheEndOfTheRing() {
        CHECK.words("as long as the one cancelled last is CHAINED, that of the next SLOT");
        Rings x = from(4);
        Check.post(x, letter(1, 2, 1) + letter(1, 3, 1) + letter(1, 4, 0) + letter(1, 5, 0));
        due("cancels(1): SLOTS 4, 5, 0", x.cancels(1), 9);
        due("HEAD", x.channel(1, 4), 1);
        statuses(x, 1, 2, 0, 1, 1, 2, 2);
        Rings y = from(5);
        Check.post(y, letter(1, 2, 0) + letter(1, 3, 0));
        due("cancels(1): SLOT 5 alone", y.cancels(1), 2);
        due("HEAD, 0 behind 5", y.channel(1, 4), 0);
        statuses(y, 1, 0, 1, 1, 1, 1, 2);
    }

    private static void chainedToNothing() {
        CHECK.words("if it is the ENGINE's");
        Rings x = Check.with(letter(1, 2, 1) + letter(1, 3, 1));
        due("cancels(1)", x.cancels(1), 5);
        due("HEAD", x.channel(1, 4), 2);
        due("SLOT 2 has no LETTER", x.slot(1, 2, 1), TransferRings.NONE);
        due("posted later", Check.posted(x, letter(1, 4, 0)), 1);
        due("it is not cancelled", x.slot(1, 2, 1), 0);
        due("it is PRESENT", x.channel(1, 5), 4);
    }

    private static void chainedToOneOfTheHosts() {
        CHECK.words("if it is the ENGINE's and was not cancelled just now");
        // SLOT 0 is done: the chain of SLOT 5 ends there.
        Rings x = from(5);
        Check.post(x, letter(1, 2, 1));
        due("cancels(1)", x.cancels(1), 2);
        statuses(x, 1, 1, 1, 1, 1, 1, 2);
        due("HEAD", x.channel(1, 4), 0);
        // SLOT 0 was cancelled earlier, with 3 left: they are not told again.
        Rings y = Check.with(letter(1, 3, 0));
        due("cancels(1)", y.cancels(1), 3);
        Check.post(y, letter(1, 2, 1).repeat(5));
        due("cancels(1)", y.cancels(1), 10);
        statuses(y, 1, 2, 2, 2, 2, 2, 2);
        due("RESIDUE of SLOT 0", y.slot(1, 0, 2), 3);
        due("HEAD", y.channel(1, 4), 0);
        // SLOT 0 WAITS, and is WRITTEN BACK first.
        Rings z = Check.with(letter(1, 4, 1) + letter(1, 5, 1).repeat(4), letter(1, 5, 1));
        z.ticks(1);
        due("cancels(1)", z.cancels(1), 25);
        statuses(z, 1, 1, 2, 2, 2, 2, 2);
        due("HEAD", z.channel(1, 4), 0);
    }

    private static void withTheirResidue() {
        CHECK.words("the RESIDUE of all LETTERS that were cancelled, together.");
        Rings x = Check.with(letter(3, 16, 1) + letter(3, 7, 0));
        x.ticks(3);
        due("cancels(3)", x.cancels(3), 4 + 7);
        due("RESIDUE, SLOT 0", x.slot(3, 0, 2), 4);
        due("RESIDUE, SLOT 1", x.slot(3, 1, 2), 7);
        due("UNITS, SLOT 0", x.slot(3, 0, 3), 16);
        due("RESIDUE of the PRESENT one: none", x.channel(3, 5), 0);
        due("no TRANSFER", x.channel(3, 6), 0);
        due("lands", x.lands(32 + 15), 0);
        due("what was carried stays", x.at(32 + 11), 11);
        due("what was not, was not", x.at(32 + 12), 44);
        Rings one = Check.with(letter(3, 5, 0));
        one.ticks(1);
        due("cancels(3), one UNIT is left", one.cancels(3), 1);
        Rings off = Check.with(letter(3, 5, 0));
        off.switches(3);
        due("cancels(3), off", off.cancels(3), 5);
        due("it is off still", off.channel(3, 0), 0);
    }

    private static void headIsBehindTheLast() {
        CHECK.words("HEAD is the SLOT behind the last of them.");
        for (int first = 0; first <= 5; first++) {
            for (int many = 1; many <= 5; many++) {
                Rings x = from(first);
                for (int i = 1; i <= many; i++) {
                    Check.post(x, letter(1, 2, i < many ? 1 : 0));
                }
                due("cancels(1)", x.cancels(1), 2 * many);
                due("HEAD, " + many + " from " + first, x.channel(1, 4), (first + many) % 6);
                due("POST", x.channel(1, 3), (first + many) % 6);
                due("HEAD of another", x.channel(2, 4), 0);
            }
        }
    }

    /** Behind the call and undo() all is as ahead of the call, in each of the states. */
    private static void undone(String name, State.Steps ahead, State.Call call, int want) {
        Rings x = new Rings();
        ahead.in(x);
        due(name, call.on(x), want);
        CHECK.holds(name + " undone", State.enginesAlike(ahead, State.behind(ahead, y -> {
            call.on(y);
            y.undo();
        })));
    }

    private static void undoneEachKind() {
        CHECK.words("UNDONE: the latest posts(), ticks(), cancels(), switches(), tunes() that was not refused");
        String text = "f20 99;c2 3 8;" + letter(2, 3, 0) + letter(0, 2, 1);
        undone("posts()", States.fresh(text), Rings::posts, 4);
        undone("posts()", States.midway(text), Rings::posts, 4);
        undone("posts()", States.crowded(text), Rings::posts, 4);
        undone("ticks(1)", States.midway(""), x -> x.ticks(1), 1);
        undone("ticks(40)", States.midway(""), x -> x.ticks(40), 5);
        undone("ticks(40)", States.crowded(""), x -> x.ticks(40), 11);
        undone("cancels(0)", States.midway(""), x -> x.cancels(0), 12);
        undone("cancels(2)", States.midway(""), x -> x.cancels(2), 5);
        undone("cancels(1)", States.crowded(""), x -> x.cancels(1), 11);
        for (int c = 0; c <= 3; c++) {
            int channel = c;
            undone("switches(" + c + ")", States.midway(""), x -> x.switches(channel), c == 3 ? 1 : 0);
            undone("tunes(" + c + ", 3, 8)", States.midway(""), x -> x.tunes(channel, 3, 8), 1);
        }
    }

    private static void undoneOfNothing() {
        CHECK.words("(posts() of no ITEMS, ticks() without a grant, too)");
        Rings x = new Rings();
        due("posts of no ITEMS", x.posts(), 0);
        due("count(5)", x.count(5), 1);
        due("posts of blanks", Check.posted(x, "  "), 0);
        due("count(5)", x.count(5), 2);
        due("ticks(1) without a grant", x.ticks(1), 0);
        due("count(5)", x.count(5), 3);
        due("ticks(40) without a grant", x.ticks(40), 0);
        due("count(5)", x.count(5), 4);
        due("undo", x.undo(), 3);
        due("count(6)", x.count(6), 1);
        due("undo", x.undo(), 2);
        due("count(6)", x.count(6), 0);
        due("undo", x.undo(), 1);
        due("undo", x.undo(), 0);
        due("undo", x.undo(), TransferRings.STATE);
        // They take the place of older ones, too.
        Rings y = Check.with("f0 9;");
        for (int i = 0; i < 6; i++) {
            y.posts();
        }
        for (int i = 5; i >= 0; i--) {
            due("undo", y.undo(), i);
        }
        due("undo", y.undo(), TransferRings.STATE);
        due("at(0): that one is lost", y.at(0), 9);
    }

    private static void refusedIsNotUndone() {
        CHECK.words("that was not refused");
        Rings x = Check.with("f0 9;", letter(1, 1, 0).repeat(5), letter(1, 1, 0));
        due("count(5)", x.count(5), 3);
        due("ticks(41)", x.ticks(41), TransferRings.BAD);
        due("cancels(4)", x.cancels(4), TransferRings.BAD);
        due("cancels(0)", x.cancels(0), TransferRings.STATE);
        due("switches(4)", x.switches(4), TransferRings.BAD);
        due("tunes(0, 0, 9)", x.tunes(0, 0, 9), TransferRings.BAD);
        due("tunes(0, 0, 4)", x.tunes(0, 0, 4), TransferRings.STATE);
        due("posts, FULL", Check.posted(x, letter(1, 1, 0)), TransferRings.FULL);
        x.type('x');
        due("posts, FAULT", x.posts(), -10 - letter(1, 1, 0).length());
        due("count(5)", x.count(5), 3);
        // What is told, asked, seen and kept is not DONE.
        x.clear();
        x.sees(1, 1);
        x.forget();
        x.keep(0);
        x.over(1);
        due("count(5)", x.count(5), 3);
        due("undo", x.undo(), 2);
        due("POST, by the latest that was not refused", x.channel(1, 3), 5);
    }

    private static void sixAreKnown() {
        CHECK.words("(6 are known, older ones are lost)");
        for (int done = 1; done <= 14; done++) {
            Rings x = new Rings();
            for (int i = 0; i < done; i++) {
                due("posts", Check.posted(x, "f" + i + " 200;"), 1);
            }
            int known = Math.min(done, 6);
            due("count(5), done " + done, x.count(5), known);
            for (int i = known - 1; i >= 0; i--) {
                due("undo, done " + done, x.undo(), i);
                int undone = done - known + i;
                due("at(" + undone + "), undone", x.at(undone), undone);
                due("at of the one ahead", undone == 0 ? 200 : x.at(undone - 1), 200);
            }
            due("undo, none", x.undo(), TransferRings.STATE);
            due("count(5)", x.count(5), 0);
            for (int i = 0; i < done; i++) {
                due("at(" + i + "), done " + done, x.at(i), i < done - known ? 200 : i);
            }
        }
    }

    private static void undoneAndDoneAnew() {
        CHECK.words("UNDONE: how many more may be. STATE: none.");
        new State(States.fresh("f9 9;")).leaves(CHECK, "undo()", Rings::undo, TransferRings.STATE);
        State.Steps emptied = State.behind(States.midway("f9 9;"), x -> {
            for (int i = 0; i < 6; i++) {
                x.undo();
            }
        });
        new State(emptied).leaves(CHECK, "undo()", Rings::undo, TransferRings.STATE);
        // Undone and done by turns, so that what is known goes round.
        Rings x = new Rings();
        int gone = 0;
        for (int round = 0; round < 9; round++) {
            for (int i = 1; i <= 4; i++) {
                x.ticks(i);
            }
            due("count(5)", x.count(5), Math.min(6, 2 * round + 4));
            due("undo", x.undo(), Math.min(5, 2 * round + 3));
            due("undo", x.undo(), Math.min(4, 2 * round + 2));
            gone += 3;
            due("count(6)", x.count(6), gone);
        }
        for (int i = 3; i >= 0; i--) {
            due("undo", x.undo(), i);
        }
        due("undo", x.undo(), TransferRings.STATE);
        due("count(6)", x.count(6), gone - 6);
    }

    private static void allButTheText() {
        CHECK.words("all that 1 and 2 tell but THE TEXT is as ahead of it");
        Rings x = new Rings();
        due("posts", Check.posted(x, "f0 9;"), 1);
        Check.typed(x, "f1 ");
        due("undo", x.undo(), 0);
        due("THE TEXT stays as it is", x.count(4), 3);
        due("at(0)", x.at(0), 0);
        Check.typed(x, "7;");
        due("and is posted", x.posts(), 1);
        due("at(1)", x.at(1), 7);
        due("undo", x.undo(), 0);
        due("what was posted does not come back", x.clear(), 0);
        x.sees(1, 1);
        x.ticks(1);
        x.keep(1);
        x.sees(2, 1);
        due("undo", x.undo(), 0);
        due("SEEN stays", x.count(3), 2);
        due("an IMAGE stays", x.back(1), 0);
        due("count(6), of the IMAGE", x.count(6), 1);
        due("no other IMAGE", x.back(0), TransferRings.STATE);
    }
}
