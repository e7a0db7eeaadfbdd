import java.util.ArrayList;
import java.util.List;

/**
 * How an object stands behind some steps, told by all that can be asked of it and by what comes of
 * it further on. Each look is made at an object of its own that went the same steps: looks that
 * change something (undo, back, posts) don't spoil the others, and none needs more than 512 calls.
 */
final class State {
    interface Steps {
        void in(Rings x);
    }

    interface Call {
        int on(Rings x);
    }

    private interface Look {
        void at(Rings x, List<Integer> answers);
    }

    private static final int[] SOME_UNITS = {0, 1, 5, 63};
    private static final int MOST_UNDONE = 6;

    /** All that 1 and 2 tell but THE TEXT. */
    private static final List<Look> ENGINE =
            List.of(State::bytesAndChannels, State::slots, State::units, State::whatWouldBe);
    private static final List<Look> ALL = all();

    private final Steps steps;
    private final List<List<Integer>> asItIs;

    State(Steps steps) {
        this.steps = steps;
        asItIs = answers(ALL, steps);
    }

    /** A call whose answer is due, by which nothing changes: refused, or only asked. */
    void leaves(Check check, String name, Call call, int want) {
        for (int i = 0; i < ALL.size(); i++) {
            Rings x = new Rings();
            steps.in(x);
            int got = call.on(x);
            if (i == 0) {
                check.due(name, got, want);
            }
            List<Integer> answers = new ArrayList<>();
            ALL.get(i).at(x, answers);
            if (!answers.equals(asItIs.get(i))) {
                check.holds("look " + i + " is the same behind " + name, false);
            }
        }
    }

    /** Whether all is alike that 1 and 2 tell but THE TEXT. */
    static boolean enginesAlike(Steps one, Steps other) {
        return answers(ENGINE, one).equals(answers(ENGINE, other));
    }

    static Steps behind(Steps first, Steps then) {
        return x -> {
            first.in(x);
            then.in(x);
        };
    }

    private static List<List<Integer>> answers(List<Look> looks, Steps steps) {
        List<List<Integer>> all = new ArrayList<>();
        for (Look look : looks) {
            Rings x = new Rings();
            steps.in(x);
            List<Integer> answers = new ArrayList<>();
            look.at(x, answers);
            all.add(answers);
        }
        return all;
    }

    private static List<Look> all() {
        List<Look> looks = new ArrayList<>(ENGINE);
        looks.add(State::otherCounts);
        looks.add(State::textPosted);
        looks.add(State::seen);
        for (int undone = 1; undone <= MOST_UNDONE; undone++) {
            looks.add(undone(undone, State::bytesAndChannels));
            looks.add(undone(undone, State::slots));
        }
        for (int image = 0; image <= 1; image++) {
            looks.add(backIn(image, State::bytesAndChannels));
            looks.add(backIn(image, State::slots));
        }
        return looks;
    }

    private static void bytesAndChannels(Rings x, List<Integer> answers) {
        for (int address = 0; address < 64; address++) {
            answers.add(x.at(address));
        }
        for (int c = 0; c < 4; c++) {
            for (int what = 0; what <= 8; what++) {
                answers.add(x.channel(c, what));
            }
        }
        for (int i = 0; i < 3; i++) {
            answers.add(x.waiting(i));
        }
        answers.add(x.count(2));
        answers.add(x.count(6));
    }

    private static void slots(Rings x, List<Integer> answers) {
        for (int c = 0; c < 4; c++) {
            for (int s = 0; s < 6; s++) {
                for (int what = 0; what <= 5; what++) {
                    answers.add(x.slot(c, s, what));
                }
            }
        }
        answers.add(x.count(0));
        answers.add(x.count(1));
    }

    private static void units(Rings x, List<Integer> answers) {
        for (int c = 0; c < 4; c++) {
            for (int s = 0; s < 6; s++) {
                for (int k : SOME_UNITS) {
                    answers.add(x.unit(c, s, k, 0));
                    answers.add(x.unit(c, s, k, 1));
                }
            }
        }
    }

    private static void whatWouldBe(Rings x, List<Integer> answers) {
        for (int k = 1; k <= 40; k++) {
            answers.add(x.granted(k));
        }
        for (int c = 0; c < 4; c++) {
            answers.add(x.over(c));
            answers.add(x.enough(c, 9));
            answers.add(x.enough(c, 60));
        }
        for (int address = 0; address < 64; address++) {
            answers.add(x.lands(address));
        }
    }

    private static void otherCounts(Rings x, List<Integer> answers) {
        for (int what = 3; what <= 5; what++) {
            answers.add(x.count(what));
        }
    }

    private static void textPosted(Rings x, List<Integer> answers) {
        answers.add(x.posts());
        bytesAndChannels(x, answers);
        answers.add(x.clear());
    }

    /** What was SEEN is told by the ranks that it leaves, now and in later ticks. */
    private static void seen(Rings x, List<Integer> answers) {
        for (int later = 0; later < 12; later++) {
            for (int c = 0; c < 4; c++) {
                answers.add(x.ranks(c));
            }
            x.ticks(1);
        }
        answers.add(x.forget());
    }

    private static Look undone(int many, Look look) {
        return (x, answers) -> {
            for (int i = 0; i < many; i++) {
                answers.add(x.undo());
            }
            look.at(x, answers);
        };
    }

    private static Look backIn(int image, Look look) {
        return (x, answers) -> {
            answers.add(x.back(image));
            look.at(x, answers);
        };
    }
}
