import java.util.ArrayList;
import java.util.List;
import java.util.function.Supplier;

/**
 * All that can be asked of a net: every answer, which moves are there, and what colours the states
 * have. Each part of it is asked of new objects, made the same way, since an object is for 512 calls.
 */
final class Picture {
    private static final int MOST_ON_ONE_OBJECT = 288;
    /** Those of the nets that the tests take pictures of, and some next to them. */
    private static final int[] COLOURS = {
        Nets.LEAST, Nets.LEAST + 1, -24, -2, -1, 0, 1, 2, 3, 4, 5, 6, 7, 8, 9, 10, 11, 12, 13, 14, 15, 16, 17, 18,
        19, 20, 21, 22, 23, 24, Nets.GREATEST - 1, Nets.GREATEST
    };

    private final Supplier<AlikeStates> made;
    private final List<String> names = new ArrayList<>();
    private final List<int[]> answers = new ArrayList<>();

    private interface Question {
        int ask(AlikeStates x, int n);
    }

    Picture(Supplier<AlikeStates> made) {
        this.made = made;
        askOfTheNet();
        askOfStates();
        askOfPairs();
        askOfMoves();
        askOfColours();
    }

    /** The first answer that differs, with both of them; an empty text when none does. */
    String differenceTo(Picture other) {
        if (answers.size() != other.answers.size()) {
            return "the longest play";
        }
        for (int part = 0; part < answers.size(); part++) {
            int[] mine = answers.get(part);
            int[] theirs = other.answers.get(part);
            for (int n = 0; n < mine.length; n++) {
                if (mine[n] != theirs[n]) {
                    return names.get(part) + " " + n + " is " + mine[n] + " against " + theirs[n];
                }
            }
        }
        return "";
    }

    private void askOfTheNet() {
        ask("moves", 1, (x, n) -> x.moves());
        ask("kinds", 1, (x, n) -> x.kinds());
        ask("links", 1, (x, n) -> x.links());
    }

    private void askOfStates() {
        ask("kind", 24, (x, n) -> x.kind(n));
        ask("size", 24, (x, n) -> x.size(n));
        ask("below", 24, (x, n) -> x.below(n));
        ask("reach", 24 * 4, (x, n) -> x.reach(n / 4, n % 4));
    }

    private void askOfPairs() {
        ask("alike", 24 * 24, (x, n) -> bit(x.alike(n / 24, n % 24)));
        ask("breach", 24 * 24, (x, n) -> x.breach(n / 24, n % 24));
        ask("covers", 24 * 24, (x, n) -> bit(x.covers(n / 24, n % 24)));
        ask("attacks", 24 * 24, (x, n) -> x.attacks(n / 24, n % 24));
        ask("play", 24 * 24, (x, n) -> x.play(n / 24, n % 24));
        boolean there = true;
        for (int i = 0; i <= 24 && there; i++) {
            there = askOfAttacks(i);
        }
    }

    /** Asks for attack i of every play, and for its answer; says whether any play has such an attack. */
    private boolean askOfAttacks(int i) {
        int[] attacks = ask("attack " + i + " of", 24 * 24, (x, n) -> x.attack(n / 24, n % 24, i));
        ask("answer " + i + " of", 24 * 24, (x, n) -> x.answer(n / 24, n % 24, i));
        boolean there = false;
        for (int attack : attacks) {
            there |= attack != AlikeStates.NONE;
        }
        return there;
    }

    /** A move is there when it can be taken away. */
    private void askOfMoves() {
        ask("drop", 24 * 4 * 24, (x, n) -> bit(x.drop(n / 96, n / 24 % 4, n % 24)));
    }

    /** A state has a colour when another one that gets it too is then alike to it for 0 rounds. */
    private void askOfColours() {
        for (int s = 0; s < 24; s++) {
            int state = s;
            int other = (s + 1) % 24;
            ask("colour of " + s, COLOURS.length,
                    (x, n) -> bit(x.colour(other, COLOURS[n]) && x.breach(state, other) != 0));
        }
    }

    private int[] ask(String name, int times, Question question) {
        int[] row = new int[times];
        AlikeStates x = null;
        for (int n = 0; n < times; n++) {
            if (n % MOST_ON_ONE_OBJECT == 0) {
                x = made.get();
            }
            row[n] = question.ask(x, n);
        }
        names.add(name);
        answers.add(row);
        return row;
    }

    private static int bit(boolean b) {
        return b ? 1 : 0;
    }
}
