/** The edges that the document's part 1 names of THE TEXT: its length, blanks, items, tokens, FAULT. Each test quotes its words. */
public final class TextEdgesTest {
    private static final Check CHECK = new Check();
    private static final String ONE_OF_EACH = "l0 1 2 3-4 5 1-6 7 1;f8 9;c1 2 3;";
    /** The tokens of it, a blank between any two. */
    private static final String[] TOKENS = {"l", "0", "1", "2", "3", "-4", "5", "1", "-6", "7", "1", ";",
        "f", "8", "9", ";", "c", "1", "2", "3", ";"};
    private static final String IN_TOKENS = "lfc;-0123456789 ";

    public static void main(String[] args) {
        of120Letters();
        blanks();
        onlyBlanksAreBlanks();
        noItems();
        endedBySemicolon();
        words();
        numbersInTheirOrder();
        numbersBelow0();
        blanksThatAreNeeded();
        theFirstFault();
        tokensThatCantStandThere();
        anyOtherLetter();
        minusWithoutAFigure();
        moreThanThreeFigures();
        zeroAheadOfOthers();
        endsTooEarly();
        faultChangesNothing();
        CHECK.end("TextEdgesTest");
    }

    private static void due(String call, long got, long want) {
        CHECK.due(call, got, want);
    }

    private static void items(String text, int many) {
        due("posts of \"" + text + "\"", Check.posted(new Rings(), text), many);
    }

    private static void fault(String text, int place) {
        items(text, -10 - place);
    }

    private static void of120Letters() {
        CHECK.words("a text (120 letters at most)");
        Rings x = new Rings();
        for (int i = 1; i <= 115; i++) {
            due("type(32)", x.type(32), i);
        }
        Check.typed(x, "f0 9");
        due("count(4)", x.count(4), 119);
        due("the 120th", x.type(';'), 120);
        due("the 121st", x.type(';'), TransferRings.FULL);
        due("the 120th is read", x.posts(), 1);
        due("at(0)", x.at(0), 9);
        due("it is empty then", x.count(4), 0);
        due("the first again", x.type('f'), 1);
        Rings y = new Rings();
        Check.typed(y, " ".repeat(116) + "f0 9;");
        due("count(4), ; was refused", y.count(4), 120);
        due("the 121st is not read", y.posts(), -10 - 120);
        Rings z = new Rings();
        Check.typed(z, "f9 9;".repeat(23) + "f9 8;");
        due("24 ITEMS in 120 letters", z.posts(), 24);
        due("at(9), by the last of them", z.at(9), 8);
        fault(" ".repeat(119) + "x", 119);
        fault("x" + " ".repeat(119), 0);
        fault("f0 9" + " ".repeat(116), 120);
        fault("f0 9;".repeat(23) + "f0 9 ", 120);
        fault("f0 9;".repeat(23) + "f0 9x", 119);
        fault("f0 9;".repeat(23) + "f0 99", 120);
    }

    private static void blanks() {
        CHECK.words("blanks (32), any number, ahead of, between, behind TOKENS");
        for (int many = 1; many <= 3; many++) {
            for (int gap = 0; gap <= TOKENS.length; gap++) {
                StringBuilder text = new StringBuilder();
                for (int i = 0; i <= TOKENS.length; i++) {
                    text.append(" ".repeat(i == gap ? many : i == 0 || i == TOKENS.length ? 0 : 1));
                    text.append(i == TOKENS.length ? "" : TOKENS[i]);
                }
                takenAsOneOfEach(text.toString());
            }
        }
        takenAsOneOfEach(ONE_OF_EACH);
        takenAsOneOfEach(" ".repeat(120 - ONE_OF_EACH.length()) + ONE_OF_EACH);
        takenAsOneOfEach(ONE_OF_EACH + " ".repeat(120 - ONE_OF_EACH.length()));
    }

    private static void takenAsOneOfEach(String text) {
        Rings x = new Rings();
        due("posts of \"" + text + "\"", Check.posted(x, text), 3);
        // FROM 1 a -4, TO 2 b 5, one row of three.
        due("from", x.unit(0, 0, 2, 0), 64 + 1 - 8);
        due("to", x.unit(0, 0, 2, 1), 2 + 10);
        due("UNITS", x.slot(0, 0, 3), 3);
        due("CHAINED", x.slot(0, 0, 4), 1);
        due("at(8)", x.at(8), 9);
        due("RANK", x.channel(1, 1), 2);
        due("BURST", x.channel(1, 2), 3);
    }

    private static void onlyBlanksAreBlanks() {
        CHECK.words("blanks (32)");
        int[] others = {0, 9, 10, 11, 12, 13, 31, 33, 95, 127, 133, 160, 255};
        for (int other : others) {
            fault((char) other + "f8 9;", 0);
            fault("f" + (char) other + "8 9;", 1);
            fault("f8" + (char) other + "9;", 2);
            fault("f8 9" + (char) other + ";", 4);
            fault("f8 9;" + (char) other, 5);
        }
        // A blank parts figures, and a - from its figures.
        fault("f1 0 9;", 5);
        fault("l0 1 2 3- 4 5 1-6 7 1;", 8);
    }

    private static void noItems() {
        CHECK.words("ITEMS (none, too)");
        items("", 0);
        items(" ", 0);
        items(" ".repeat(119), 0);
        items(" ".repeat(120), 0);
        Rings x = Check.with("l0 0 0 1 0 0 1 0 0 0;".repeat(5), "l0 0 0 1 0 0 1 0 0 0;");
        due("none, where a ring is full", x.posts(), 0);
        due("count(5)", x.count(5), 3);
    }

    private static void endedBySemicolon() {
        CHECK.words("each ended by ;");
        items("f8 9;", 1);
        fault("f8 9", 4);
        items("f8 9;f8 9;", 2);
        fault("f8 9;f8 9", 9);
        fault("f8 9 f8 9;", 5);
        fault("f8 9f8 9;", 4);
        fault("f8 9,", 4);
        fault("f8 9:", 4);
        fault("f8 9;;", 5);
        fault(";f8 9;", 0);
        fault(";", 0);
        fault("f8 9 9;", 5);
        fault("c1 2 3 4;", 7);
        fault("c1 2;", 4);
        fault("f8;", 2);
        fault("f;", 1);
        fault("c;", 1);
        fault("l;", 1);
        fault("l0 1 2 3-4 5 1-6 7;", 18);
        items("l0 1 2 3-4 5 1-6 7 1;", 1);
        fault("l0 1 2 3-4 5 1-6 7 1 1;", 21);
        fault("l0 1 2 3-4 5 1-6 7 1-1;", 20);
    }

    private static void words() {
        CHECK.words("TOKENS are the letters l, f, c, NUMBERS (rows of figures, a - just ahead of the first one where it is below 0; no -0) and ;");
        String letters = "lfc";
        for (int sign = 0; sign <= 255; sign++) {
            if (letters.indexOf(sign) < 0) {
                boolean blank = sign == ' ';
                fault((char) sign + "8 9;", blank ? 1 : 0);
                fault("f7 7;" + (char) sign + "8 9;", blank ? 6 : 5);
            }
        }
        items("f8 9;", 1);
        fault("l8 9;", 1);
        // c takes what f takes, but for its ends and how many there are.
        fault("c8 9;", 1);
        fault("c3 3;", 4);
        fault("ff8 9;", 1);
        fault("f f8 9;", 2);
    }

    private static void numbersInTheirOrder() {
        CHECK.words("l C F T N a b r u v e (a LETTER for CHANNEL C; e: CHAINED)");
        // No two of them are alike but r and e, which are told apart by the other two letters.
        Rings x = Check.with("l3 10 20 5 4 6 2 7 8 1;", "l3 10 20 5 4 6 1 7 8 1;", "l3 10 20 5 4 6 2 7 8 0;");
        int[][] want = {{10, 1}, {5, 1}, {10, 0}};
        for (int s = 0; s < want.length; s++) {
            due("UNITS, SLOT " + s, x.slot(3, s, 3), want[s][0]);
            due("CHAINED, SLOT " + s, x.slot(3, s, 4), want[s][1]);
            due("from, UNIT 4", x.unit(3, s, 4, 0), 10 + 4 * 4);
            due("to, UNIT 4", x.unit(3, s, 4, 1), 20 + 4 * 6);
        }
        due("from, UNIT 5", x.unit(3, 0, 5, 0), 10 + 7);
        due("to, UNIT 5", x.unit(3, 0, 5, 1), 20 + 8);
        for (int c = 0; c <= 3; c++) {
            due("POST of " + c, x.channel(c, 3), c == 3 ? 3 : 0);
        }
    }

    private static void numbersBelow0() {
        CHECK.words("a - just ahead of the first one where it is below 0; no -0");
        items("l0 0 0 2-9-9 1-20-20 0;", 1);
        items("l0 0 0 2 -1 -1 1 -1 -1 0;", 1);
        items("l0 0 0 2 0 0 1 0 0 0;", 1);
        String letter = "l0 0 0 1 0 0 1 0 0 0;";
        for (int place = 1; place < letter.length() - 1; place += 2) {
            fault(letter.substring(0, place) + "-0" + letter.substring(place + 1), place);
            fault(letter.substring(0, place) + "-00" + letter.substring(place + 1), place);
        }
        fault("f-0 0;", 1);
        fault("f0 -0;", 3);
        fault("c-0 0 1;", 1);
        fault("c0 -0 1;", 3);
        fault("f8 +9;", 3);
        fault("f8 9-;", 4);
        Rings x = Check.with("l0 30 30 2-1 1 2-1 1 0;");
        due("a below 0", x.unit(0, 0, 1, 0), 29);
        due("b above 0", x.unit(0, 0, 1, 1), 31);
        due("u below 0", x.unit(0, 0, 2, 0), 29);
        due("v above 0", x.unit(0, 0, 2, 1), 31);
    }

    private static void blanksThatAreNeeded() {
        CHECK.words("(blanks are needed only between two NUMBERS of which the second has no -)");
        takenAsOneOfEach("l0 1 2 3-4 5 1-6 7 1;f8 9;c1 2 3;");
        // Without them two NUMBERS are one, and one is missing.
        fault("f89;", 1);
        fault("f19;", 3);
        fault("f8 9;c12 3;", 6);
        fault("l01 2 3-4 5 1-6 7 1;", 1);
        fault("l0 12 3-4 5 1-6 7 1;", 7);
        items("l0 0 0 1-1-1 1-1-1 0;", 1);
    }

    private static void theFirstFault() {
        CHECK.words("FAULT: the place of the first letter of the first TOKEN that can't stand there");
        fault("x;;-", 0);
        fault("f8 x;f9 y;", 3);
        fault("f8 9;f64 256;", 6);
        fault("f63 256;f64 0;", 4);
        fault("f63 255;f64 0;", 9);
        fault("f8 9 -1000;", 5);
        fault("f8 9  c", 6);
        fault("   f   8   xyz", 11);
        fault("f8 123456;", 3);
        fault("l4 64 64 17 10 10 5 21 21 2;", 1);
        fault("l3 64 64 17 10 10 5 21 21 2;", 3);
        fault("l3 63 63 16 9 9 4 20 20 2;", 24);
    }

    private static void tokensThatCantStandThere() {
        CHECK.words("the first TOKEN that can't stand there");
        String[] all = {"l", "f", "c", ";", "1"};
        for (int at = 0; at < TOKENS.length; at++) {
            StringBuilder ahead = new StringBuilder();
            for (int i = 0; i < at; i++) {
                ahead.append(TOKENS[i]).append(' ');
            }
            for (String token : all) {
                if (kind(token) != kind(TOKENS[at])) {
                    fault(ahead + token, ahead.length());
                    fault(ahead + token + TOKENS[at], ahead.length());
                }
            }
        }
    }

    /** Tokens of one kind can stand at the same places: l, f and c; a number; the end. */
    private static char kind(String token) {
        char first = token.charAt(0);
        return first == ';' ? ';' : Character.isLetter(first) ? 'l' : '1';
    }

    private static void anyOtherLetter() {
        CHECK.words("of any other letter");
        String[] texts = {"f8 9;c1 2 3;", "f 8 9 ; c 1 2 3 ;"};
        for (int sign = 0; sign <= 255; sign++) {
            if (IN_TOKENS.indexOf(sign) >= 0) {
                continue;
            }
            for (String text : texts) {
                for (int place = 0; place <= text.length(); place++) {
                    fault(text.substring(0, place) + (char) sign + text.substring(place), place);
                }
            }
        }
        // Just beside the figures and the minus, and letters that are close.
        fault("f8 /;", 3);
        fault("f8 9/;", 4);
        fault("f8 :;", 3);
        fault("f8 9:;", 4);
        fault("f8 9.;", 4);
        fault("F8 9;", 0);
        fault("L0 1 2 3-4 5 1-6 7 1;", 0);
        fault("C1 2 3;", 0);
        fault("f8 " + (char) ('9' + 128) + ";", 3);
        fault((char) ('f' + 128) + "8 9;", 0);
    }

    private static void minusWithoutAFigure() {
        CHECK.words("of a - without a figure just behind");
        for (int sign = 0; sign <= 255; sign++) {
            if (sign < '0' || sign > '9') {
                fault("l0 1 2 3-" + (char) sign + "4 5 1-6 7 1;", 8);
                fault("-" + (char) sign + "4", 0);
                fault("f8 9-" + (char) sign + "4;", 4);
            }
        }
        fault("-", 0);
        fault("f-", 1);
        fault("f -", 2);
        fault("f8 9;-", 5);
        fault("l0 1 2 3-", 8);
        fault("l0 1 2 3 -", 9);
        fault("l0 1 2 3--4 5 1-6 7 1;", 8);
    }

    private static void moreThanThreeFigures() {
        CHECK.words("a NUMBER with more than three figures");
        items("f8 255;", 1);
        items("f8 100;", 1);
        fault("f8 256;", 3);
        fault("f8 999;", 3);
        fault("f8 1000;", 3);
        fault("f8 2550;", 3);
        fault("f8 0255;", 3);
        fault("f8 0009;", 3);
        fault("f1000 9;", 1);
        // They would be 9 if a count went round: 2 to the 8th, 16th, 32nd, 64th, and 9.
        fault("f8 265;", 3);
        fault("f8 65545;", 3);
        fault("f8 4294967305;", 3);
        fault("f8 18446744073709551625;", 3);
        fault("f8 " + "9".repeat(117), 3);
        fault("f8 " + "0".repeat(116) + ";", 3);
        fault("l0 1 2 3-0004 5 1-6 7 1;", 8);
        fault("l0 1 2 3-1000 5 1-6 7 1;", 8);
        fault("l0 1 2 3-4294967292 5 1-6 7 1;", 8);
        fault("c1 2 4294967299;", 5);
    }

    private static void zeroAheadOfOthers() {
        CHECK.words("or with a 0 ahead of others (-0, too)");
        items("f0 0;", 1);
        items("f10 100;", 1);
        items("f20 200;", 1);
        fault("f00 0;", 1);
        fault("f08 9;", 1);
        fault("f8 00;", 3);
        fault("f8 000;", 3);
        fault("f8 09;", 3);
        fault("f8 009;", 3);
        fault("f8 010;", 3);
        fault("c01 2 3;", 1);
        fault("c1 02 3;", 3);
        fault("c1 2 03;", 5);
        fault("l0 1 2 3-0 5 1-6 7 1;", 8);
        fault("l0 1 2 3-00 5 1-6 7 1;", 8);
        fault("l0 1 2 3-04 5 1-6 7 1;", 8);
        fault("l0 1 2 3-004 5 1-6 7 1;", 8);
        fault("l0 1 2 3 00 5 1-6 7 1;", 9);
        fault("l0 1 2 3-4 5 1-6 7 01;", 19);
        // Where no NUMBER can stand it is the same TOKEN.
        fault("00", 0);
        fault("f8 9 00;", 5);
    }

    private static void endsTooEarly() {
        CHECK.words("the text's length, if it ends too early");
        String text = "l3 10 20 16-4 5 4-16 17 1;f18 199;c1 2 3;";
        for (int length = 0; length <= text.length(); length++) {
            String part = text.substring(0, length);
            int ended = part.length() - part.replace(";", "").length();
            boolean between = part.isEmpty() || part.endsWith(";");
            // A - that ends the text has no figure behind it.
            int place = part.endsWith("-") ? length - 1 : length;
            items(part, between ? ended : -10 - place);
            if (!between && !part.endsWith("-")) {
                fault(part + "   ", length + 3);
            }
        }
        // What an older text had there is not read.
        Rings x = new Rings();
        Check.typed(x, text);
        x.clear();
        due("behind a longer text that was cleared", Check.posted(x, "f18 19"), -10 - 6);
        x.clear();
        Check.post(x, "f8 9;f9 9;");
        due("behind a longer text that was posted", Check.posted(x, "f8 9;f"), -10 - 6);
    }

    private static void faultChangesNothing() {
        CHECK.words("-10 less FAULT, FULL: nothing changes, THE TEXT stays.");
        String good = "f1 99;c0 3 8;l0 0 8 3 1 1 1 0 0 0;";
        String[] bad = {"x", "f", "f8 9", "f8 9;;", "-", "f8 -0;", "f8 256;", "f00 1;", "l4 0 8 3 1 1 1 0 0 0;"};
        int[] places = {0, 1, 4, 5, 0, 3, 3, 1, 1};
        for (int i = 0; i < bad.length; i++) {
            String text = good + bad[i];
            int want = -10 - good.length() - places[i];
            new State(States.fresh(text)).leaves(CHECK, "posts of \"" + text + "\"", Rings::posts, want);
            new State(States.midway(text)).leaves(CHECK, "posts of \"" + text + "\"", Rings::posts, want);
            new State(States.crowded(text)).leaves(CHECK, "posts of \"" + text + "\"", Rings::posts, want);
        }
        Rings x = new Rings();
        due("posts", Check.posted(x, "f8 25"), -15);
        due("posts again", x.posts(), -15);
        due("count(4)", x.count(4), 5);
        Check.typed(x, "5;");
        due("the text goes on", x.posts(), 1);
        due("at(8)", x.at(8), 255);
    }
}
