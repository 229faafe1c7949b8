/**
 * Long runs of calls on many nets, each answer against a model that follows the words of the document
 * one by one.
 */
public final class ModelTest {
    private static final int RUNS = 400;
    private static final int CALLS = 512;

    private static final Checks checks = new Checks();

    private final Numbers numbers;
    private final AlikeStates net = new AlikeStates();
    private final Model model = new Model();
    private final String name;
    private final int states;
    private final int labels;
    private final int colours;
    private final int changes;
    private final boolean far;

    private ModelTest(int run) {
        numbers = new Numbers(run);
        name = "run " + run + ": ";
        states = 2 + numbers.below(23);
        labels = 1 + numbers.below(numbers.below(2) == 0 ? 2 : 4);
        colours = 1 + numbers.below(3);
        changes = 5 + numbers.below(60);
        far = run % 2 == 0;
    }

    public static void main(String[] args) {
        for (int run = 0; run < RUNS; run++) {
            new ModelTest(run).go();
        }
        checks.end();
    }

    /** Some changes come first, so that most of the questions are put to a net of some size. */
    private void go() {
        int first = far ? numbers.below(160) : layGround();
        for (int i = 0; i < first && far; i++) {
            change();
        }
        for (int i = first; i < CALLS; i++) {
            if (numbers.below(1000) < changes) {
                change();
            } else {
                ask();
            }
        }
    }

    private int state() {
        return numbers.below(60) == 0 ? numbers.odd() : numbers.below(states);
    }

    /**
     * Every state gets a move or two with every label, mostly to a near state: so states are alike but
     * for the few that lack a move or have a colour, and differences lie many rounds off.
     */
    private int layGround() {
        int calls = 0;
        for (int s = 0; s < states; s++) {
            for (int label = 0; label < labels; label++) {
                int more = numbers.below(3) == 0 ? 2 : 1;
                for (int i = 0; i < more; i++) {
                    move(s, label, near(s));
                    calls++;
                }
            }
        }
        for (int i = numbers.below(4); i > 0; i--) {
            colour(numbers.below(states), numbers.below(2));
            calls++;
        }
        return calls;
    }

    private int near(int s) {
        return numbers.below(10) == 0 ? numbers.below(states) : (s + 1 + numbers.below(2)) % states;
    }

    private int label() {
        return numbers.below(60) == 0 ? numbers.odd() : numbers.below(labels);
    }

    private void change() {
        int what = numbers.below(200);
        int s = state();
        int label = label();
        int t = state();
        if (what < 150) {
            move(s, label, t);
        } else if (what < 180) {
            due("drop", s, label, t, bit(net.drop(s, label, t)), bit(model.drop(s, label, t)));
        } else if (what < 199) {
            colour(s, numbers.below(colours));
        } else {
            due("clear", 0, 0, 0, net.clear(), model.clear());
        }
    }

    private void move(int s, int label, int t) {
        due("move", s, label, t, bit(net.move(s, label, t)), bit(model.move(s, label, t)));
    }

    private void colour(int s, int c) {
        due("colour", s, c, 0, bit(net.colour(s, c)), bit(model.colour(s, c)));
    }

    private void ask() {
        int s = state();
        int t = state();
        int label = label();
        int i = numbers.below(4) == 0 ? numbers.below(24) - 1 : numbers.below(3);
        switch (numbers.below(14)) {
            case 0 -> due("moves", 0, 0, 0, net.moves(), model.moves.size());
            case 1 -> due("alike", s, t, 0, bit(net.alike(s, t)), bit(model.alike(s, t)));
            case 2 -> due("breach", s, t, 0, net.breach(s, t), model.breach(s, t));
            case 3 -> due("kinds", 0, 0, 0, net.kinds(), model.kinds().size());
            case 4 -> due("kind", s, 0, 0, net.kind(s), model.kind(s));
            case 5 -> due("size", s, 0, 0, net.size(s), model.size(s));
            case 6 -> due("reach", s, label, 0, net.reach(s, label), model.reach(s, label));
            case 7 -> due("links", 0, 0, 0, net.links(), model.links());
            case 8 -> due("covers", s, t, 0, bit(net.covers(s, t)), bit(model.covers(s, t)));
            case 9 -> due("below", s, 0, 0, net.below(s), model.below(s));
            case 10 -> due("attacks", s, t, 0, net.attacks(s, t), model.attacks(s, t).size());
            case 11 -> due("play", s, t, 0, net.play(s, t), model.play(s, t).size());
            case 12 -> due("attack", s, t, i, net.attack(s, t, i), model.played(s, t, i, 0));
            default -> due("answer", s, t, i, net.answer(s, t, i), model.played(s, t, i, 1));
        }
    }

    private void due(String call, int a, int b, int c, int got, int want) {
        checks.due(name + call + "(" + a + ", " + b + ", " + c + ")", got, want);
    }

    private static int bit(boolean b) {
        return b ? 1 : 0;
    }
}
