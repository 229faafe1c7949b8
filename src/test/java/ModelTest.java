import java.util.ArrayList;
import java.util.Arrays;
import java.util.List;

/**
 * Long runs of calls on many nets, each answer against a model that follows the words of the document
 * one by one, with lists and tables instead of sets of bits.
 */
public final class ModelTest {
    private static final int RUNS = 400;
    private static final int CALLS = 512;

    private static final Checks checks = new Checks();

    private final Numbers numbers;
    private final AlikeStates net = new AlikeStates();
    private final Model model = new Model();
    private final String name;
    private final int states;
    private final int labels;
    private final int colours;
    private final int changes;
    private final boolean far;

    private ModelTest(int run) {
        numbers = new Numbers(run);
        name = "run " + run + ": ";
        states = 2 + numbers.below(23);
        labels = 1 + numbers.below(numbers.below(2) == 0 ? 2 : 4);
        colours = 1 + numbers.below(3);
        changes = 5 + numbers.below(60);
        far = run % 2 == 0;
    }

    public static void main(String[] args) {
        for (int run = 0; run < RUNS; run++) {
            new ModelTest(run).go();
        }
        checks.end();
    }

    /** Some changes come first, so that most of the questions are put to a net of some size. */
    private void go() {
        int first = far ? numbers.below(160) : layGround();
        for (int i = 0; i < first && far; i++) {
            change();
        }
        for (int i = first; i < CALLS; i++) {
            if (numbers.below(1000) < changes) {
                change();
            } else {
                ask();
            }
        }
    }

    private int state() {
        return numbers.below(60) == 0 ? numbers.odd() : numbers.below(states);
    }

    /**
     * Every state gets a move or two with every label, mostly to a near state: so states are alike but
     * for the few that lack a move or have a colour, and differences lie many rounds off.
     */
    private int layGround() {
        int calls = 0;
        for (int s = 0; s < states; s++) {
            for (int label = 0; label < labels; label++) {
                int more = numbers.below(3) == 0 ? 2 : 1;
                for (int i = 0; i < more; i++) {
                    move(s, label, near(s));
                    calls++;
                }
            }
        }
        for (int i = numbers.below(4); i > 0; i--) {
            colour(numbers.below(states), numbers.below(2));
            calls++;
        }
        return calls;
    }

    private int near(int s) {
        return numbers.below(10) == 0 ? numbers.below(states) : (s + 1 + numbers.below(2)) % states;
    }

    private int label() {
        return numbers.below(60) == 0 ? numbers.odd() : numbers.below(labels);
    }

    private void change() {
        int what = numbers.below(200);
        int s = state();
        int label = label();
        int t = state();
        if (what < 150) {
            move(s, label, t);
        } else if (what < 180) {
            due("drop", s, label, t, bit(net.drop(s, label, t)), bit(model.drop(s, label, t)));
        } else if (what < 199) {
            colour(s, numbers.below(colours));
        } else {
            due("clear", 0, 0, 0, net.clear(), model.clear());
        }
    }

    private void move(int s, int label, int t) {
        due("move", s, label, t, bit(net.move(s, label, t)), bit(model.move(s, label, t)));
    }

    private void colour(int s, int c) {
        due("colour", s, c, 0, bit(net.colour(s, c)), bit(model.colour(s, c)));
    }

    private void ask() {
        int s = state();
        int t = state();
        int label = label();
        int i = numbers.below(4) == 0 ? numbers.below(24) - 1 : numbers.below(3);
        switch (numbers.below(14)) {
            case 0 -> due("moves", 0, 0, 0, net.moves(), model.moves.size());
            case 1 -> due("alike", s, t, 0, bit(net.alike(s, t)), bit(model.alike(s, t)));
            case 2 -> due("breach", s, t, 0, net.breach(s, t), model.breach(s, t));
            case 3 -> due("kinds", 0, 0, 0, net.kinds(), model.kinds().size());
            case 4 -> due("kind", s, 0, 0, net.kind(s), model.kind(s));
            case 5 -> due("size", s, 0, 0, net.size(s), model.size(s));
            case 6 -> due("reach", s, label, 0, net.reach(s, label), model.reach(s, label));
            case 7 -> due("links", 0, 0, 0, net.links(), model.links());
            case 8 -> due("covers", s, t, 0, bit(net.covers(s, t)), bit(model.covers(s, t)));
            case 9 -> due("below", s, 0, 0, net.below(s), model.below(s));
            case 10 -> due("attacks", s, t, 0, net.attacks(s, t), model.attacks(s, t).size());
            case 11 -> due("play", s, t, 0, net.play(s, t), model.play(s, t).size());
            case 12 -> due("attack", s, t, i, net.attack(s, t, i), model.played(s, t, i, 0));
            default -> due("answer", s, t, i, net.answer(s, t, i), model.played(s, t, i, 1));
        }
    }

    private void due(String call, int a, int b, int c, int got, int want) {
        checks.due(name + call + "(" + a + ", " + b + ", " + c + ")", got, want);
    }

    private static int bit(boolean b) {
        return b ? 1 : 0;
    }

    /** The same numbers in every run of the test. */
    private static final class Numbers {
        private static final int[] ODD = {
            -1, 24, 4, 23, 0, 3, 32, -24, 1000, Integer.MAX_VALUE, Integer.MIN_VALUE
        };
        private long seed;

        Numbers(int run) {
            seed = run * 7919L + 17;
        }

        int below(int bound) {
            seed = seed * 6364136223846793005L + 1442695040888963407L;
            return (int) ((seed >>> 33) % bound);
        }

        int odd() {
            return ODD[below(ODD.length)];
        }
    }

    private static final class Model {
        /** More rounds than any two states of 24 can need, for being alike and for covering. */
        private static final int MANY = 24 * 24;

        final List<int[]> moves = new ArrayList<>();
        private int[] colours = new int[24];
        private List<boolean[][]> alikeFor;
        private boolean[][] covering;

        boolean move(int s, int label, int t) {
            boolean there = isState(s) && isState(t) && label >= 0 && label <= 3;
            if (!there || find(s, label, t) >= 0 || moves.size() == 120) {
                return false;
            }
            moves.add(new int[] {s, label, t});
            forget();
            return true;
        }

        boolean drop(int s, int label, int t) {
            int at = find(s, label, t);
            if (at < 0) {
                return false;
            }
            moves.remove(at);
            forget();
            return true;
        }

        boolean colour(int s, int c) {
            if (isState(s)) {
                colours[s] = c;
                forget();
            }
            return isState(s);
        }

        int clear() {
            int before = moves.size();
            moves.clear();
            colours = new int[24];
            forget();
            return before;
        }

        private void forget() {
            alikeFor = null;
            covering = null;
        }

        private static boolean isState(int s) {
            return s >= 0 && s <= 23;
        }

        private int find(int s, int label, int t) {
            for (int i = 0; i < moves.size(); i++) {
                int[] m = moves.get(i);
                if (m[0] == s && m[1] == label && m[2] == t) {
                    return i;
                }
            }
            return -1;
        }

        /** Whether each move of t has one of s with the same label, to a state that the table allows. */
        private boolean matched(int s, int t, boolean[][] table) {
            for (int[] m : moves) {
                if (m[0] == t) {
                    boolean found = false;
                    for (int[] n : moves) {
                        found |= n[0] == s && n[1] == m[1] && table[n[2]][m[2]];
                    }
                    if (!found) {
                        return false;
                    }
                }
            }
            return true;
        }

        private boolean[][] sameColours() {
            boolean[][] table = new boolean[24][24];
            for (int s = 0; s < 24; s++) {
                for (int t = 0; t < 24; t++) {
                    table[s][t] = colours[s] == colours[t];
                }
            }
            return table;
        }

        private boolean[][] nextRound(boolean[][] before, boolean bothWays) {
            boolean[][] table = sameColours();
            for (int s = 0; s < 24; s++) {
                for (int t = 0; t < 24; t++) {
                    table[s][t] &= matched(s, t, before) && (!bothWays || matched(t, s, before));
                }
            }
            return table;
        }

        private static boolean same(boolean[][] a, boolean[][] b) {
            return Arrays.deepEquals(a, b);
        }

        /** The table of a number of rounds; a round that changes nothing is the last one to be worked out. */
        private boolean[][] alikeFor(int rounds) {
            if (alikeFor == null) {
                alikeFor = new ArrayList<>();
                alikeFor.add(sameColours());
                for (int k = 1; k <= MANY; k++) {
                    boolean[][] before = alikeFor.get(k - 1);
                    boolean[][] table = nextRound(before, true);
                    alikeFor.add(table);
                    if (same(before, table)) {
                        break;
                    }
                }
            }
            return alikeFor.get(Math.min(rounds, alikeFor.size() - 1));
        }

        int breach(int s, int t) {
            if (isState(s) && isState(t)) {
                for (int k = 0; k <= MANY; k++) {
                    if (!alikeFor(k)[s][t]) {
                        return k;
                    }
                }
            }
            return -1;
        }

        boolean alike(int s, int t) {
            return isState(s) && isState(t) && alikeFor(MANY)[s][t];
        }

        List<List<Integer>> kinds() {
            List<List<Integer>> kinds = new ArrayList<>();
            for (int s = 0; s < 24; s++) {
                List<Integer> home = null;
                for (List<Integer> kind : kinds) {
                    if (alike(kind.get(0), s)) {
                        home = kind;
                    }
                }
                if (home == null) {
                    home = new ArrayList<>();
                    kinds.add(home);
                }
                home.add(s);
            }
            return kinds;
        }

        int kind(int s) {
            List<List<Integer>> kinds = kinds();
            for (int k = 0; k < kinds.size(); k++) {
                if (kinds.get(k).contains(s)) {
                    return k;
                }
            }
            return -1;
        }

        int size(int kind) {
            List<List<Integer>> kinds = kinds();
            return kind < 0 || kind >= kinds.size() ? 0 : kinds.get(kind).size();
        }

        private boolean movesTo(List<Integer> kind, int label, List<Integer> other) {
            for (int[] m : moves) {
                if (kind.contains(m[0]) && m[1] == label && other.contains(m[2])) {
                    return true;
                }
            }
            return false;
        }

        int reach(int kind, int label) {
            List<List<Integer>> kinds = kinds();
            int sum = 0;
            int power = 1;
            for (int k = 0; k < kinds.size() && kind >= 0 && kind < kinds.size(); k++) {
                sum += movesTo(kinds.get(kind), label, kinds.get(k)) ? power : 0;
                power *= 2;
            }
            return sum;
        }

        int links() {
            List<List<Integer>> kinds = kinds();
            int found = 0;
            for (List<Integer> kind : kinds) {
                for (List<Integer> other : kinds) {
                    for (int label = 0; label < 4; label++) {
                        found += movesTo(kind, label, other) ? 1 : 0;
                    }
                }
            }
            return found;
        }

        boolean covers(int s, int t) {
            if (!isState(s) || !isState(t)) {
                return false;
            }
            if (covering == null) {
                covering = sameColours();
                boolean[][] before = null;
                for (int k = 1; k <= MANY && (before == null || !same(before, covering)); k++) {
                    before = covering;
                    covering = nextRound(before, false);
                }
            }
            return covering[s][t];
        }

        int below(int s) {
            int found = 0;
            for (int t = 0; t < 24; t++) {
                found += covers(s, t) ? 1 : 0;
            }
            return isState(s) ? found : -1;
        }

        /** Rows of the side (0 or 1), the label and the state, in the order of attacks. */
        List<int[]> attacks(int s, int t) {
            List<int[]> found = new ArrayList<>();
            int breach = breach(s, t);
            for (int side = 0; side < 2 && breach > 0; side++) {
                for (int label = 0; label < 4; label++) {
                    for (int u = 0; u < 24; u++) {
                        int other = side == 0 ? t : s;
                        if (find(side == 0 ? s : t, label, u) >= 0 && !isMet(u, other, label, breach - 1)) {
                            found.add(new int[] {side, label, u});
                        }
                    }
                }
            }
            return found;
        }

        private boolean isMet(int u, int other, int label, int k) {
            for (int[] m : moves) {
                if (m[0] == other && m[1] == label && alikeFor(k)[u][m[2]]) {
                    return true;
                }
            }
            return false;
        }

        /** Rows of an attack, written as the document does, and its answer. */
        List<int[]> play(int s, int t) {
            List<int[]> played = new ArrayList<>();
            if (breach(s, t) <= 0) {
                return played;
            }
            int[] first = attacks(s, t).get(0);
            int answer = -1;
            for (int v = 23; v >= 0; v--) {
                boolean may = find(first[0] == 0 ? t : s, first[1], v) >= 0;
                if (may && (answer < 0 || breach(first[2], v) >= breach(first[2], answer))) {
                    answer = v;
                }
            }
            played.add(new int[] {1000 * first[0] + 100 * first[1] + first[2], answer});
            if (answer >= 0) {
                played.addAll(first[0] == 0 ? play(first[2], answer) : play(answer, first[2]));
            }
            return played;
        }

        int played(int s, int t, int i, int what) {
            List<int[]> played = play(s, t);
            return i >= 0 && i < played.size() ? played.get(i)[what] : -1;
        }
    }
}
