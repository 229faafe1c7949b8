import java.util.ArrayList;
import java.util.Arrays;
import java.util.List;

/** The words of the document one by one, with lists and tables instead of sets of bits. */
final class Model {
    /** More rounds than any two states of 24 can need, for being alike and for covering. */
    private static final int MANY = 24 * 24;

    final List<int[]> moves = new ArrayList<>();
    private int[] colours = new int[24];
    private List<boolean[][]> alikeFor;
    private boolean[][] covering;

    boolean move(int s, int label, int t) {
        boolean there = isState(s) && isState(t) && label >= 0 && label <= 3;
        if (!there || find(s, label, t) >= 0 || moves.size() == 120) {
            return false;
        }
        moves.add(new int[] {s, label, t});
        forget();
        return true;
    }

    boolean drop(int s, int label, int t) {
        int at = find(s, label, t);
        if (at < 0) {
            return false;
        }
        moves.remove(at);
        forget();
        return true;
    }

    boolean colour(int s, int c) {
        if (isState(s)) {
            colours[s] = c;
            forget();
        }
        return isState(s);
    }

    int clear() {
        int before = moves.size();
        moves.clear();
        colours = new int[24];
        forget();
        return before;
    }

    private void forget() {
        alikeFor = null;
        covering = null;
    }

    private static boolean isState(int s) {
        return s >= 0 && s <= 23;
    }

    private int find(int s, int label, int t) {
        for (int i = 0; i < moves.size(); i++) {
            int[] m = moves.get(i);
            if (m[0] == s && m[1] == label && m[2] == t) {
                return i;
            }
        }
        return -1;
    }

    /** Whether each move of t has one of s with the same label, to a state that the table allows. */
    private boolean matched(int s, int t, boolean[][] table) {
        for (int[] m : moves) {
            if (m[0] == t) {
                boolean found = false;
                for (int[] n : moves) {
                    found |= n[0] == s && n[1] == m[1] && table[n[2]][m[2]];
                }
                if (!found) {
                    return false;
                }
            }
        }
        return true;
    }

    private boolean[][] sameColours() {
        boolean[][] table = new boolean[24][24];
        for (int s = 0; s < 24; s++) {
            for (int t = 0; t < 24; t++) {
                table[s][t] = colours[s] == colours[t];
            }
        }
        return table;
    }

    private boolean[][] nextRound(boolean[][] before, boolean bothWays) {
        boolean[][] table = sameColours();
        for (int s = 0; s < 24; s++) {
            for (int t = 0; t < 24; t++) {
                table[s][t] &= matched(s, t, before) && (!bothWays || matched(t, s, before));
            }
        }
        return table;
    }

    private static boolean same(boolean[][] a, boolean[][] b) {
        return Arrays.deepEquals(a, b);
    }

    /** The table of a number of rounds; a round that changes nothing is the last one to be worked out. */
    private boolean[][] alikeFor(int rounds) {
        if (alikeFor == null) {
            alikeFor = new ArrayList<>();
            alikeFor.add(sameColours());
            for (int k = 1; k <= MANY; k++) {
                boolean[][] before = alikeFor.get(k - 1);
                boolean[][] table = nextRound(before, true);
                alikeFor.add(table);
                if (same(before, table)) {
                    break;
                }
            }
        }
        return alikeFor.get(Math.min(rounds, alikeFor.size() - 1));
    }

    int breach(int s, int t) {
        if (isState(s) && isState(t)) {
            for (int k = 0; k <= MANY; k++) {
                if (!alikeFor(k)[s][t]) {
                    return k;
                }
            }
        }
        return -1;
    }

    boolean alike(int s, int t) {
        return isState(s) && isState(t) && alikeFor(MANY)[s][t];
    }

    List<List<Integer>> kinds() {
        List<List<Integer>> kinds = new ArrayList<>();
        for (int s = 0; s < 24; s++) {
            List<Integer> home = null;
            for (List<Integer> kind : kinds) {
                if (alike(kind.get(0), s)) {
                    home = kind;
                }
            }
            if (home == null) {
                home = new ArrayList<>();
                kinds.add(home);
            }
            home.add(s);
        }
        return kinds;
    }

    int kind(int s) {
        List<List<Integer>> kinds = kinds();
        for (int k = 0; k < kinds.size(); k++) {
            if (kinds.get(k).contains(s)) {
                return k;
            }
        }
        return -1;
    }

    int size(int kind) {
        List<List<Integer>> kinds = kinds();
        return kind < 0 || kind >= kinds.size() ? 0 : kinds.get(kind).size();
    }

    private boolean movesTo(List<Integer> kind, int label, List<Integer> other) {
        for (int[] m : moves) {
            if (kind.contains(m[0]) && m[1] == label && other.contains(m[2])) {
                return true;
            }
        }
        return false;
    }

    int reach(int kind, int label) {
        List<List<Integer>> kinds = kinds();
        int sum = 0;
        int power = 1;
        for (int k = 0; k < kinds.size() && kind >= 0 && kind < kinds.size(); k++) {
            sum += movesTo(kinds.get(kind), label, kinds.get(k)) ? power : 0;
            power *= 2;
        }
        return sum;
    }

    int links() {
        List<List<Integer>> kinds = kinds();
        int found = 0;
        for (List<Integer> kind : kinds) {
            for (List<Integer> other : kinds) {
                for (int label = 0; label < 4; label++) {
                    found += movesTo(kind, label, other) ? 1 : 0;
                }
            }
        }
        return found;
    }

    boolean covers(int s, int t) {
        if (!isState(s) || !isState(t)) {
            return false;
        }
        if (covering == null) {
            covering = sameColours();
            boolean[][] before = null;
            for (int k = 1; k <= MANY && (before == null || !same(before, covering)); k++) {
                before = covering;
                covering = nextRound(before, false);
            }
        }
        return covering[s][t];
    }

    int below(int s) {
        int found = 0;
        for (int t = 0; t < 24; t++) {
            found += covers(s, t) ? 1 : 0;
        }
        return isState(s) ? found : -1;
    }

    /** Rows of the side (0 or 1), the label and the state, in the order of attacks. */
    List<int[]> attacks(int s, int t) {
        List<int[]> found = new ArrayList<>();
        int breach = breach(s, t);
        for (int side = 0; side < 2 && breach > 0; side++) {
            for (int label = 0; label < 4; label++) {
                for (int u = 0; u < 24; u++) {
                    int other = side == 0 ? t : s;
                    if (find(side == 0 ? s : t, label, u) >= 0 && !isMet(u, other, label, breach - 1)) {
                        found.add(new int[] {side, label, u});
                    }
                }
            }
        }
        return found;
    }

    private boolean isMet(int u, int other, int label, int k) {
        for (int[] m : moves) {
            if (m[0] == other && m[1] == label && alikeFor(k)[u][m[2]]) {
                return true;
            }
        }
        return false;
    }

    /** Rows of an attack, written as the document does, and its answer. */
    List<int[]> play(int s, int t) {
        List<int[]> played = new ArrayList<>();
        if (breach(s, t) <= 0) {
            return played;
        }
        int[] first = attacks(s, t).get(0);
        int answer = -1;
        for (int v = 23; v >= 0; v--) {
            boolean may = find(first[0] == 0 ? t : s, first[1], v) >= 0;
            if (may && (answer < 0 || breach(first[2], v) >= breach(first[2], answer))) {
                answer = v;
            }
        }
        played.add(new int[] {1000 * first[0] + 100 * first[1] + first[2], answer});
        if (answer >= 0) {
            played.addAll(first[0] == 0 ? play(first[2], answer) : play(answer, first[2]));
        }
        return played;
    }

    int played(int s, int t, int i, int what) {
        List<int[]> played = play(s, t);
        return i >= 0 && i < played.size() ? played.get(i)[what] : -1;
    }
}
