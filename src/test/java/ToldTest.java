/** Promises 1 to 4: a new object, and THE TEXT: typed, cleared, posted. */
public final class ToldTest {
    private static final Check CHECK = new Check();

    public static void main(String[] args) {
        newObject();
        type();
        clear();
        postsItems();
        postsNumbersAtTheirEnds();
        postsFaultsOfTokens();
        postsFaultsOfNumbers();
        postsEndsTooEarly();
        postsBlanks();
        postsRefusedChangesNothing();
        postsFull();
        CHECK.end("ToldTest");
    }

    private static void due(String call, long got, long want) {
        CHECK.due(call, got, want);
    }

    private static void newObject() {
        CHECK.about("promise 1");
        Rings x = new Rings();
        for (int address = 0; address < 64; address++) {
            due("at(" + address + ")", x.at(address), address);
        }
        int[] first = {1, 0, 4, 0, 0, 0, 0, 0, 0};
        for (int c = 0; c < 4; c++) {
            for (int what = 0; what < 9; what++) {
                due("channel(" + c + ", " + what + ")", x.channel(c, what), first[what]);
            }
            for (int slot = 0; slot < 6; slot++) {
                due("slot(" + c + ", " + slot + ", 0)", x.slot(c, slot, 0), TransferRings.NONE);
            }
            due("ranks", x.ranks(c), 15);
            due("over", x.over(c), 0);
        }
        int[] counts = {0, 0, 3, 0, 0, 0, 0};
        for (int what = 0; what < 7; what++) {
            due("count(" + what + ")", x.count(what), counts[what]);
        }
        due("undo", x.undo(), TransferRings.STATE);
        due("back(0)", x.back(0), TransferRings.STATE);
        due("back(1)", x.back(1), TransferRings.STATE);
        due("clear", x.clear(), 0);
        due("forget", x.forget(), 0);
        due("waiting(0)", x.waiting(0), TransferRings.NONE);
        Rings other = new Rings();
        Check.posted(x, "f5 9;c2 3 1;");
        due("at(5) of another object", other.at(5), 5);
        due("channel(2, 1) of another object", other.channel(2, 1), 0);
        due("at(5) of an object made later", new Rings().at(5), 5);
    }

    private static void type() {
        CHECK.about("promise 2");
        Rings x = new Rings();
        due("type(-1)", x.type(-1), TransferRings.BAD);
        due("type(256)", x.type(256), TransferRings.BAD);
        due("type(MIN)", x.type(Integer.MIN_VALUE), TransferRings.BAD);
        due("type(MAX)", x.type(Integer.MAX_VALUE), TransferRings.BAD);
        due("count(4)", x.count(4), 0);
        due("type(0)", x.type(0), 1);
        due("type(255)", x.type(255), 2);
        for (int i = 3; i <= 120; i++) {
            due("type(32)", x.type(32), i);
        }
        due("type(32) with 120", x.type(32), TransferRings.FULL);
        due("type(256) with 120", x.type(256), TransferRings.BAD);
        due("count(4)", x.count(4), 120);
        due("count(5)", x.count(5), 0);
        due("clear", x.clear(), 120);
        due("type(32)", x.type(32), 1);
    }

    private static void clear() {
        CHECK.about("promise 3");
        Rings x = new Rings();
        Check.typed(x, "f1 2;xyz");
        due("clear", x.clear(), 8);
        due("count(4)", x.count(4), 0);
        due("clear again", x.clear(), 0);
        due("posts of the cleared text", x.posts(), 0);
        due("at(1)", x.at(1), 1);
        due("clear is not undone", x.count(5), 1);
    }

    private static void postsItems() {
        CHECK.about("promise 4, items");
        Rings x = new Rings();
        due("posts of nothing", x.posts(), 0);
        due("count(5)", x.count(5), 1);
        due("posts of items", Check.posted(x, "l3 1 2 5-1 2 3-4 5 1;f7 255;f7 8;c1 2 7;"), 4);
        due("count(4)", x.count(4), 0);
        due("at(7), the later f", x.at(7), 8);
        due("RANK", x.channel(1, 1), 2);
        due("BURST", x.channel(1, 2), 7);
        due("POST", x.channel(3, 3), 1);
        due("HEAD", x.channel(3, 4), 0);
        due("OWNER", x.slot(3, 0, 0), 1);
        due("STATUS", x.slot(3, 0, 1), 0);
        due("RESIDUE", x.slot(3, 0, 2), 15);
        due("UNITS", x.slot(3, 0, 3), 15);
        due("CHAINED", x.slot(3, 0, 4), 1);
        due("WAITS", x.slot(3, 0, 5), 0);
        due("c that changes nothing is no refusal", Check.posted(x, "c1 2 7;"), 1);
        due("most items: 24 of five letters", Check.posted(x, "f0 9;".repeat(24)), 24);
        due("at(0)", x.at(0), 9);
        due("count(6)", x.count(6), 0);
    }

    private static void postsNumbersAtTheirEnds() {
        CHECK.about("promise 4, ends of numbers");
        String[] least = {"0", "0", "0", "1", "-9", "-9", "1", "-20", "-20", "0"};
        String[] most = {"3", "63", "63", "16", "9", "9", "4", "20", "20", "1"};
        String[] below = {"-1", "-1", "-1", "0", "-10", "-10", "0", "-21", "-21", "-1"};
        String[] above = {"4", "64", "64", "17", "10", "10", "5", "21", "21", "2"};
        ends("l", least, most, below, above);
        ends("f", new String[] {"0", "0"}, new String[] {"63", "255"},
                new String[] {"-1", "-1"}, new String[] {"64", "256"});
        ends("c", new String[] {"0", "0", "1"}, new String[] {"3", "3", "8"},
                new String[] {"-1", "-1", "0"}, new String[] {"4", "4", "9"});
    }

    private static void ends(String kind, String[] least, String[] most, String[] below, String[] above) {
        for (int i = 0; i < least.length; i++) {
            due(kind + " number " + i + " least", postsWith(kind, least, i, least[i]), 1);
            due(kind + " number " + i + " most", postsWith(kind, least, i, most[i]), 1);
            int fault = 1;
            for (int j = 0; j < i; j++) {
                fault += 1 + least[j].length();
            }
            due(kind + " number " + i + " below", postsWith(kind, least, i, below[i]), -10 - fault - 1);
            due(kind + " number " + i + " above", postsWith(kind, least, i, above[i]), -10 - fault - 1);
        }
    }

    private static int postsWith(String kind, String[] numbers, int i, String number) {
        StringBuilder text = new StringBuilder(kind);
        for (int j = 0; j < numbers.length; j++) {
            text.append(' ').append(j == i ? number : numbers[j]);
        }
        return Check.posted(new Rings(), text.append(" ;").toString());
    }

    private static void fault(String text, int place) {
        due("posts of \"" + text + "\"", Check.posted(new Rings(), text), -10 - place);
    }

    private static void postsFaultsOfTokens() {
        CHECK.about("promise 4, tokens");
        fault(";", 0);
        fault("x", 0);
        fault("  7", 2);
        fault("-", 0);
        fault("L0 0 0 1 0 0 1 0 0 0;", 0);
        fault("ff0 0;", 1);
        fault("f l0;", 2);
        fault("f0 c;", 3);
        fault("f0;", 2);
        fault("f0 0 0;", 5);
        fault("f0 0-1;", 4);
        fault("f0 0 f0 0;", 5);
        fault("f0 0;;", 5);
        fault("f0 0; 5;", 6);
        fault("f0 0;g", 5);
        fault("f0 0;f64 0;", 6);
        fault("f0,0;", 2);
        fault("f0\t0;", 2);
        fault("f0\n0;", 2);
        fault("f0 0" + (char) 187 + ";", 4);
        fault("c0 0 1 1;", 7);
        fault("l0 0 0 1 0 0 1 0 0;", 18);
        fault("l0 0 0 1 0 0 1 0 0 0 0;", 21);
    }

    private static void postsFaultsOfNumbers() {
        CHECK.about("promise 4, numbers");
        fault("f0 1000;", 3);
        fault("f0 999;", 3);
        fault("f 0001 1;", 2);
        fault("f00 1;", 1);
        fault("f01 1;", 1);
        fault("f0 00;", 3);
        fault("f0 012;", 3);
        fault("f-0 1;", 1);
        fault("l0 0 0 1-0 0 1 0 0 0;", 8);
        fault("l0 0 0 1-01 0 1 0 0 0;", 8);
        fault("l0 0 0 1- 1 0 1 0 0 0;", 8);
        fault("l0 0 0 1--1 0 1 0 0 0;", 8);
        fault("l0 0 0 1 +1 0 1 0 0 0;", 9);
        fault("l0 0 0 1-1234567890123 0 1 0 0 0;", 8);
        fault("f0 4294967296;", 3);
        fault("f0 -", 3);
        fault("f0 1000", 3);
        fault("f0 -0", 3);
    }

    private static void postsEndsTooEarly() {
        CHECK.about("promise 4, the text's length");
        fault("f", 1);
        fault("f ", 2);
        fault("f0", 2);
        fault("f0 0", 4);
        fault("f0 0  ", 6);
        fault("f0 0;l", 6);
        fault("c0 0 1", 6);
        fault("l0 0 0 1 0 0 1 0 0 0", 20);
        fault(" ".repeat(119) + "f", 120);
        behindAnOlderText("f0 0;", "f0 0", 4);
        behindAnOlderText("f0 255;", "f0 25", 5);
        behindAnOlderText("f0 0;f1 1;", "f0 0;f", 6);
        due("posts of 120 blanks", Check.posted(new Rings(), " ".repeat(120)), 0);
    }

    /** What an older text had behind the end of this one is not read. */
    private static void behindAnOlderText(String older, String text, int place) {
        Rings x = new Rings();
        Check.typed(x, older);
        x.clear();
        due("posts of \"" + text + "\" behind \"" + older + "\"", Check.posted(x, text), -10 - place);
    }

    private static void postsBlanks() {
        CHECK.about("promise 4, blanks");
        due("blanks all about", Check.posted(new Rings(), "   f   1    2   ;   c 0 1 2;  "), 2);
        Rings x = new Rings();
        due("no blanks that are not needed", Check.posted(x, "l0 1 2 3-4-5 1-6-7 1;f1 2;"), 2);
        due("STEP a", x.unit(0, 0, 1, 0), 64 + 1 - 4);
        due("STEP b", x.unit(0, 0, 1, 1), 64 + 2 - 5);
    }

    private static void postsRefusedChangesNothing() {
        CHECK.about("promise 4, refused");
        Rings x = Check.with("l0 0 8 3 1 1 1 0 0 0;");
        Check.typed(x, "f0 9;c0 3 8;l0 0 8 3 1 1 1 0 0 0;f0 256;");
        due("posts with a FAULT", x.posts(), -10 - 36);
        due("at(0)", x.at(0), 0);
        due("POST", x.channel(0, 3), 1);
        due("the text stays", x.clear(), 40);
        due("an unchanged object goes on", Check.posted(x, "f0 25"), -15);
        Check.typed(x, "5;");
        due("typed on behind a FAULT", x.posts(), 1);
        due("at(0)", x.at(0), 255);
    }

    private static void postsFull() {
        CHECK.about("promise 4, FULL");
        String letter = "l1 0 8 1 1 1 1 0 0 0;";
        Rings x = Check.with(letter.repeat(5));
        due("POST", x.channel(1, 3), 5);
        Check.typed(x, "f0 9;c0 1 1;" + letter + letter);
        due("one too many in the text", x.posts(), TransferRings.FULL);
        due("POST stays", x.channel(1, 3), 5);
        due("the text stays", x.clear(), 54);
        due("the sixth", Check.posted(x, letter), 1);
        due("POST is 0 behind 5", x.channel(1, 3), 0);
        due("the seventh", Check.posted(x, letter), TransferRings.FULL);
        due("another CHANNEL has room", x.clear() + Check.posted(x, "l0 0 8 1 1 1 1 0 0 0;"), 22);
        due("FAULT goes ahead of FULL", Check.posted(x, letter + "x"), -10 - 21);
        x.clear();
        due("first tick: 1 behind 0 comes later", x.ticks(1), 1);
        due("0 was GRANTED", x.count(2), 0);
        due("second tick", x.ticks(1), 1);
        due("SLOT 0 of 1 WAITS", x.slot(1, 0, 5), 1);
        due("one that WAITS is the ENGINE's", Check.posted(x, letter), TransferRings.FULL);
        due("third tick writes it back", x.ticks(1), 1);
        due("the text that stayed is posted", x.posts(), 1);
        due("STATUS of the new LETTER", x.slot(1, 0, 1), 0);
        due("RESIDUE of the new LETTER", x.slot(1, 0, 2), 1);
        due("POST", x.channel(1, 3), 1);
    }
}
