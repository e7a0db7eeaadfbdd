import java.util.Random;

/** Random runs, the same ones every time, held against the model. */
public final class RandomRunsTest {
    private static final int RUNS = 4000;
    /** What a look at all needs, and the dearest step. */
    private static final int CALLS_OF_LOOK = 251, CALLS_OF_STEP = 123;

    private final Random random;
    private final Rings x = new Rings();
    private final Model model = new Model();
    private final StringBuilder log = new StringBuilder();
    private int wrong = 0;

    private RandomRunsTest(long seed) {
        random = new Random(seed);
    }

    public static void main(String[] args) {
        int wrong = 0;
        for (int run = 0; run < RUNS && wrong == 0; run++) {
            RandomRunsTest test = new RandomRunsTest(run);
            // Every fourth run ends with a look at all; the others go on longer instead.
            boolean looks = run % 4 == 0;
            while (test.x.callsLeft() >= CALLS_OF_STEP + (looks ? CALLS_OF_LOOK : 0) && test.wrong == 0) {
                test.step();
            }
            if (looks) {
                test.comparedAll();
            }
            wrong += test.wrong;
            if (test.wrong != 0) {
                System.out.println("run " + run + ":\n" + test.log);
            }
        }
        System.out.println("RandomRunsTest: " + RUNS + " runs, " + wrong + " not as due");
        if (wrong != 0) {
            System.exit(1);
        }
    }

    private void due(String call, int got, int want) {
        log.append(call).append(" = ").append(got).append('\n');
        if (got != want) {
            wrong++;
            log.append("  due is ").append(want).append('\n');
        }
    }

    private int to(int most) {
        return random.nextInt(most + 1);
    }

    private int between(int least, int most) {
        return least + random.nextInt(most - least + 1);
    }

    private int slotNearHead(int c) {
        return random.nextInt(3) == 0 ? to(5) : (x.channel(c, 4) + between(-2, 2) + 6) % 6;
    }

    private String letter() {
        boolean small = random.nextBoolean();
        int[] numbers = {to(3), to(63), to(63), small ? between(1, 4) : between(1, 16), between(-9, 9),
            between(-9, 9), small ? 1 : between(1, 4), between(-20, 20), between(-20, 20), to(1)};
        return item("l", numbers);
    }

    private String item(String kind, int[] numbers) {
        StringBuilder all = new StringBuilder(kind);
        for (int i = 0; i < numbers.length; i++) {
            if (i > 0 && numbers[i] >= 0 || random.nextInt(12) == 0) {
                all.append(' ');
            }
            all.append(numbers[i]);
        }
        return all.append(random.nextInt(12) == 0 ? " ; " : ";").toString();
    }

    private String anyText() {
        StringBuilder text = new StringBuilder();
        for (int items = to(3); items >= 0; items--) {
            int kind = to(5);
            if (kind <= 3) {
                text.append(letter());
            } else if (kind == 4) {
                text.append(item("f", new int[] {to(63), to(255)}));
            } else {
                text.append(item("c", new int[] {to(3), to(3), between(1, 8)}));
            }
        }
        for (int spoilt = random.nextInt(3) == 0 ? 1 + to(2) : 0; spoilt > 0 && text.length() > 0; spoilt--) {
            spoil(text);
        }
        return text.length() > 120 ? text.substring(0, 120) : text.toString();
    }

    private void spoil(StringBuilder text) {
        String signs = "lfc;- 0123456789x" + (char) to(255);
        int place = random.nextInt(text.length());
        switch (to(3)) {
            case 0: text.deleteCharAt(place); break;
            case 1: text.setCharAt(place, signs.charAt(random.nextInt(signs.length()))); break;
            case 2: text.insert(place, signs.charAt(random.nextInt(signs.length()))); break;
            default: text.setLength(place); break;
        }
    }

    private void postAny() {
        String text = anyText();
        for (int i = 0; i < text.length(); i++) {
            due("type(" + (int) text.charAt(i) + ")", x.type(text.charAt(i)), model.type(text.charAt(i)));
        }
        due("posts() of \"" + model.text + "\"", x.posts(), model.posts());
        if (random.nextInt(8) != 0) {
            due("clear()", x.clear(), model.clear());
        }
    }

    private void step() {
        int c = to(3);
        switch (to(17)) {
            case 0: case 1: postAny(); break;
            case 2: case 3: case 4: ticked(); break;
            case 5: due("cancels " + c, x.cancels(c), model.cancels(c)); break;
            case 6: due("switches " + c, x.switches(c), model.switches(c)); break;
            case 7: tuned(c); break;
            case 8: due("undo", x.undo(), model.undo()); break;
            case 9: askedOfSlots(c); break;
            case 10: askedOfAll(c); break;
            case 11: due("over " + c, x.over(c), model.over(c)); break;
            case 12: enoughFor(c); break;
            case 13: grantedIn(); break;
            case 14: seen(c); break;
            case 15: due("ranks " + c, x.ranks(c), model.ranks(c)); break;
            case 16: imaged(); break;
            default: comparedOf(c, slotNearHead(c)); break;
        }
    }

    private void ticked() {
        int n = random.nextInt(5) == 0 ? between(1, 40) : between(1, 4);
        due("ticks " + n, x.ticks(n), model.ticks(n));
    }

    private void tuned(int c) {
        int rank = to(3);
        int burst = between(1, 8);
        due("tunes " + c + " " + rank + " " + burst, x.tunes(c, rank, burst), model.tunes(c, rank, burst));
    }

    private void askedOfSlots(int c) {
        int s = slotNearHead(c);
        int other = to(3);
        int otherSlot = slotNearHead(other);
        int k = to(64);
        due("both " + c + " " + s + " " + other + " " + otherSlot,
                x.both(c, s, other, otherSlot), model.both(c, s, other, otherSlot));
        due("unit " + c + " " + s + " " + k + " 0", x.unit(c, s, k, 0), model.unit(c, s, k, 0));
        due("unit " + c + " " + s + " " + k + " 1", x.unit(c, s, k, 1), model.unit(c, s, k, 1));
    }

    private void askedOfAll(int c) {
        int address = to(63);
        due("lands " + address, x.lands(address), model.lands(address));
        due("waiting 0", x.waiting(0), model.waiting(0));
        due("waiting 1", x.waiting(1), model.waiting(1));
        due("at " + address, x.at(address), model.at(address));
        due("channel " + c + " 5", x.channel(c, 5), model.channel(c, 5));
    }

    private void enoughFor(int c) {
        int n = random.nextInt(3) == 0 ? to(200) : to(20);
        due("enough " + c + " " + n, x.enough(c, n), model.enough(c, n));
    }

    private void grantedIn() {
        int k = random.nextInt(3) == 0 ? between(1, 40) : between(1, 8);
        due("granted " + k, x.granted(k), model.granted(k));
    }

    private void seen(int c) {
        if (random.nextInt(4) == 0) {
            due("forget", x.forget(), model.forget());
        }
        int k = between(1, random.nextInt(3) == 0 ? 40 : 6);
        // What will be so indeed lets several ranks stand.
        int who = random.nextInt(4) == 0 ? (random.nextBoolean() ? c : TransferRings.NONE) : model.granted(k);
        due("sees " + k + " " + who, x.sees(k, who), model.sees(k, who));
    }

    private void imaged() {
        int image = to(1);
        if (random.nextInt(3) == 0) {
            due("back " + image, x.back(image), model.back(image));
        } else {
            due("keep " + image, x.keep(image), model.keep(image));
        }
    }

    private void comparedAll() {
        for (int what = 0; what < 7; what++) {
            due("count " + what, x.count(what), model.count(what));
        }
        for (int address = 0; address < 64; address++) {
            due("at " + address, x.at(address), model.at(address));
        }
        for (int c = 0; c < 4; c++) {
            comparedChannel(c);
            for (int s = 0; s < 6; s++) {
                comparedSlot(c, s);
            }
        }
    }

    private void comparedOf(int c, int slot) {
        int what = to(6);
        due("count " + what, x.count(what), model.count(what));
        comparedChannel(c);
        comparedSlot(c, slot);
    }

    private void comparedChannel(int c) {
        for (int what = 0; what < 9; what++) {
            due("channel " + c + " " + what, x.channel(c, what), model.channel(c, what));
        }
    }

    private void comparedSlot(int c, int slot) {
        for (int what = 0; what < 6; what++) {
            due("slot " + c + " " + slot + " " + what, x.slot(c, slot, what), model.slot(c, slot, what));
        }
    }
}
