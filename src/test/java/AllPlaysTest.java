import java.util.ArrayList;
import java.util.List;

/**
 * The plays on every two states of many nets, with every attack and every answer, against the model; and
 * what the Terms say of a play, by the class's own answers.
 */
public final class AllPlaysTest {
    private static final int NETS = 120;
    private static final int CALLS = 512;
    private static final int NONE = AlikeStates.NONE;

    private static final Checks checks = new Checks();

    /** What was met with in all the plays, so that no net is asked in vain. */
    private static int severalAttacks;
    private static int fromSToT;
    private static int fromTToS;
    private static int severalAnswers;
    private static int lesserBreachAtALesserState;
    private static int severalGreatest;
    private static int longest;

    private final String name;
    private final Model model = new Model();
    private final List<int[]> colours = new ArrayList<>();
    private AlikeStates net;
    private int calls;

    private AllPlaysTest(int number) {
        name = "net " + number + ": ";
        Numbers numbers = new Numbers(number);
        switch (number % 4) {
            case 0 -> layNear(numbers);
            case 1 -> layDown(numbers, 1 + numbers.below(3));
            default -> layPairs(numbers, 1 + numbers.below(2));
        }
    }

    public static void main(String[] args) {
        for (int number = 0; number < NETS; number++) {
            new AllPlaysTest(number).askAll();
        }
        checkThatAllWasMet();
        checks.end();
    }

    private static void checkThatAllWasMet() {
        checks.isTrue(severalAttacks + " plays of several attacks", severalAttacks > 10000);
        checks.isTrue(fromSToT + " times an attack of t after one of s", fromSToT > 1000);
        checks.isTrue(fromTToS + " times an attack of s after one of t", fromTToS > 1000);
        checks.isTrue(severalAnswers + " times several answers", severalAnswers > 1000);
        checks.isTrue(lesserBreachAtALesserState + " times the least state is not the answer",
                lesserBreachAtALesserState > 500);
        checks.isTrue(severalGreatest + " times several answers of the greatest breach",
                severalGreatest > 500);
        checks.isTrue(longest + " attacks in the longest play", longest >= 10);
    }

    /** Nearly all states have moves to one of the next two: they differ only many rounds later. */
    private void layNear(Numbers numbers) {
        for (int s = 0; s < 24; s++) {
            model.move(s, 0, (s + 1 + numbers.below(2)) % 24);
            if (numbers.below(2) == 0) {
                model.move(s, 0, (s + 1 + numbers.below(3)) % 24);
            }
        }
        for (int i = 0; i < 1 + numbers.below(3); i++) {
            colour(numbers.below(24), 1 + numbers.below(2));
        }
    }

    /** All moves go to one of the few states below; a state of number 0 to 3 may have a colour. */
    private void layDown(Numbers numbers, int labels) {
        for (int s = 1; s < 24; s++) {
            int more = 1 + numbers.below(4);
            for (int i = 0; i < more; i++) {
                model.move(s, numbers.below(labels), Math.max(0, s - 1 - numbers.below(5)));
            }
        }
        if (numbers.below(2) == 0) {
            colour(numbers.below(4), 1);
        }
    }

    /**
     * Two states that follow one another have the same moves to states below, but for one more that one of
     * them has: so there are several answers to it, which differ from it after more or fewer rounds.
     */
    private void layPairs(Numbers numbers, int labels) {
        for (int s = 2; s < 24; s += 2) {
            int label = numbers.below(labels);
            int more = 1 + numbers.below(4);
            for (int i = 0; i < more; i++) {
                int to = numbers.below(s);
                model.move(s, label, to);
                model.move(s + 1, label, to);
            }
            model.move(s + numbers.below(2), label, s - 1 - numbers.below(2));
        }
        colour(numbers.below(2), 1);
    }

    private void colour(int s, int c) {
        model.colour(s, c);
        colours.add(new int[] {s, c});
    }

    private void askAll() {
        for (int s = 0; s < 24; s++) {
            for (int t = 0; t < 24; t++) {
                askOf(s, t);
            }
        }
    }

    private void askOf(int s, int t) {
        List<int[]> due = model.play(s, t);
        int last = due.size();
        makeRoomFor(5 + 2 * (last + 2));
        String where = name + s + ", " + t + ": ";
        checks.due(where + "play", net.play(s, t), last);
        // An answer of the greatest breach has one round less than the two states before it.
        checks.due(where + "breach", net.breach(s, t), last > 0 ? last : model.breach(s, t));
        int attacks = net.attacks(s, t);
        checks.due(where + "attacks", attacks, model.attacks(s, t).size());
        checks.due(where + "attacks, the other way", net.attacks(t, s), attacks);
        checks.due(where + "breach, the other way", net.breach(t, s), model.breach(s, t));
        for (int i = -1; i <= last; i++) {
            boolean there = i >= 0 && i < last;
            checks.due(where + "attack " + i, net.attack(s, t, i), there ? due.get(i)[0] : NONE);
            checks.due(where + "answer " + i, net.answer(s, t, i), there ? due.get(i)[1] : NONE);
        }
        count(s, t, due);
    }

    private void makeRoomFor(int more) {
        calls += more;
        if (net == null || calls > CALLS) {
            net = new AlikeStates();
            for (int[] m : model.moves) {
                Nets.add(net, m[0], m[1], m[2]);
            }
            for (int[] c : colours) {
                net.colour(c[0], c[1]);
            }
            calls = model.moves.size() + colours.size() + more;
        }
    }

    private void count(int s, int t, List<int[]> play) {
        severalAttacks += play.size() > 1 ? 1 : 0;
        longest = Math.max(longest, play.size());
        int[] sides = {s, t};
        int before = -1;
        for (int[] row : play) {
            int side = row[0] / 1000;
            int attacked = row[0] % 100;
            fromSToT += before == 0 && side == 1 ? 1 : 0;
            fromTToS += before == 1 && side == 0 ? 1 : 0;
            countAnswers(sides[1 - side], row[0] / 100 % 10, attacked, row[1]);
            sides[side] = attacked;
            sides[1 - side] = row[1];
            before = side;
        }
    }

    private void countAnswers(int other, int label, int attacked, int answer) {
        int found = 0;
        int greatest = 0;
        int lesserBefore = 0;
        for (int[] m : model.moves) {
            if (m[0] == other && m[1] == label) {
                boolean same = model.breach(attacked, m[2]) == model.breach(attacked, answer);
                found++;
                greatest += same ? 1 : 0;
                lesserBefore += !same && m[2] < answer ? 1 : 0;
            }
        }
        severalAnswers += found > 1 ? 1 : 0;
        severalGreatest += greatest > 1 ? 1 : 0;
        lesserBreachAtALesserState += lesserBefore > 0 ? 1 : 0;
    }
}
