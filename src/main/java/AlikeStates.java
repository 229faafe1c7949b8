/**
 * A net of coloured states and labelled moves: which states behave alike, the smallest net that
 * behaves the same, which state covers which, and the play on two states that differ.
 *
 * <p>A set of states is an int with bit s set for state s. All rows are made by the constructor, and
 * no other call makes an object.
 */
public final class AlikeStates {
    public static final int NONE = -1;

    private static final int STATES = 24;
    private static final int LABELS = 4;
    private static final int MOST_MOVES = 120;

    private static final int SIDE_WEIGHT = 1000;
    private static final int LABEL_WEIGHT = 100;

    private final Net net;
    private final Likeness likeness;
    private final Cover cover;
    private final Game game;

    public AlikeStates() {
        net = new Net();
        likeness = new Likeness(net);
        cover = new Cover(net);
        game = new Game(net, likeness);
    }

    public boolean move(int s, int label, int t) {
        if (!isMove(s, label, t) || net.holds(s, label, t) || net.count() >= MOST_MOVES) {
            return false;
        }
        net.put(s, label, t);
        forgetAnswers();
        return true;
    }

    public boolean drop(int s, int label, int t) {
        if (!isMove(s, label, t) || !net.holds(s, label, t)) {
            return false;
        }
        net.take(s, label, t);
        forgetAnswers();
        return true;
    }

    public boolean colour(int s, int c) {
        if (!isState(s)) {
            return false;
        }
        net.paint(s, c);
        forgetAnswers();
        return true;
    }

    public int moves() {
        return net.count();
    }

    public int clear() {
        int before = net.count();
        net.wipe();
        forgetAnswers();
        return before;
    }

    public boolean alike(int s, int t) {
        return areStates(s, t) && settledLikeness().breachOf(s, t) == NONE;
    }

    public int breach(int s, int t) {
        return areStates(s, t) ? settledLikeness().breachOf(s, t) : NONE;
    }

    public int kinds() {
        return settledLikeness().kindCount();
    }

    public int kind(int s) {
        return isState(s) ? settledLikeness().kindOf(s) : NONE;
    }

    public int size(int kind) {
        return settledLikeness().sizeOf(kind);
    }

    public int reach(int kind, int label) {
        return isLabel(label) ? settledLikeness().kindsReached(kind, label) : 0;
    }

    public int links() {
        return settledLikeness().linkCount();
    }

    public boolean covers(int s, int t) {
        return areStates(s, t) && hasBit(settledCover().belowOf(s), t);
    }

    public int below(int s) {
        return isState(s) ? Integer.bitCount(settledCover().belowOf(s)) : NONE;
    }

    public int attacks(int s, int t) {
        if (!areStates(s, t)) {
            return 0;
        }
        likeness.settle();
        return game.countAttacks(s, t);
    }

    public int play(int s, int t) {
        return playedAttacks(s, t);
    }

    public int attack(int s, int t, int i) {
        return i >= 0 && i < playedAttacks(s, t) ? game.attackAt(i) : NONE;
    }

    public int answer(int s, int t, int i) {
        return i >= 0 && i < playedAttacks(s, t) ? game.answerAt(i) : NONE;
    }

    /** How many attacks the play on s and t has; the game holds them and their answers afterwards. */
    private int playedAttacks(int s, int t) {
        if (!areStates(s, t)) {
            return 0;
        }
        likeness.settle();
        return game.playThrough(s, t);
    }

    private void forgetAnswers() {
        likeness.forget();
        cover.forget();
    }

    private Likeness settledLikeness() {
        likeness.settle();
        return likeness;
    }

    private Cover settledCover() {
        cover.settle();
        return cover;
    }

    private static boolean isState(int s) {
        return s >= 0 && s < STATES;
    }

    private static boolean areStates(int s, int t) {
        return isState(s) && isState(t);
    }

    private static boolean isLabel(int label) {
        return label >= 0 && label < LABELS;
    }

    private static boolean isMove(int s, int label, int t) {
        return areStates(s, t) && isLabel(label);
    }

    private static boolean hasBit(int set, int s) {
        return (set >> s & 1) != 0;
    }

    /** The moves and the colours. Its callers have made sure that states and labels are such. */
    private static final class Net {
        private final int[] targets;
        private final int[] colours;
        private int count;

        Net() {
            targets = new int[STATES * LABELS];
            colours = new int[STATES];
        }

        int count() {
            return count;
        }

        /** The states to which s has a move with the label. */
        int targetsOf(int s, int label) {
            return targets[s * LABELS + label];
        }

        boolean holds(int s, int label, int t) {
            return hasBit(targetsOf(s, label), t);
        }

        void put(int s, int label, int t) {
            targets[s * LABELS + label] |= 1 << t;
            count++;
        }

        void take(int s, int label, int t) {
            targets[s * LABELS + label] &= ~(1 << t);
            count--;
        }

        void paint(int s, int c) {
            colours[s] = c;
        }

        void wipe() {
            for (int i = 0; i < targets.length; i++) {
                targets[i] = 0;
            }
            for (int s = 0; s < STATES; s++) {
                colours[s] = 0;
            }
            count = 0;
        }

        /** Puts the states with the colour of state s to rows[s], which is where both relations begin. */
        void groupByColour(int[] rows) {
            for (int s = 0; s < STATES; s++) {
                rows[s] = sameColour(s);
            }
        }

        private int sameColour(int s) {
            int found = 0;
            for (int t = 0; t < STATES; t++) {
                if (colours[t] == colours[s]) {
                    found |= 1 << t;
                }
            }
            return found;
        }

        /**
         * For each state and label, the union of the sets of the states moved to. The set of state t
         * stands at rows[from + t], that of state s and a label comes to unions[s * LABELS + label].
         */
        void unite(int[] rows, int from, int[] unions) {
            for (int i = 0; i < targets.length; i++) {
                unions[i] = targets[i] == 0 ? 0 : union(targets[i], rows, from);
            }
        }

        private static int union(int states, int[] rows, int from) {
            int all = 0;
            for (int t = 0; t < STATES; t++) {
                if (hasBit(states, t)) {
                    all |= rows[from + t];
                }
            }
            return all;
        }
    }

    /** Which states are alike for how many rounds, and the kinds that come of it. */
    private static final class Likeness {
        private final Net net;
        private final int[] rows;
        private final int[] unions;
        private final int[] kindOfState;
        private int lastRound;
        private int kindCount;
        private boolean settled;

        Likeness(Net net) {
            this.net = net;
            // Each round that still parts states makes a kind more, so round 23 parts no more of 24.
            rows = new int[STATES * STATES];
            unions = new int[STATES * LABELS];
            kindOfState = new int[STATES];
        }

        void forget() {
            settled = false;
        }

        void settle() {
            if (settled) {
                return;
            }
            net.groupByColour(rows);
            lastRound = 0;
            for (int round = 1; round < STATES && partsMore(round); round++) {
                lastRound = round;
            }
            numberKinds();
            settled = true;
        }

        /** Fills the rows of a round from those of the round before, and says whether they differ. */
        private boolean partsMore(int round) {
            int before = (round - 1) * STATES;
            net.unite(rows, before, unions);
            boolean parted = false;
            for (int s = 0; s < STATES; s++) {
                int row = stillAlike(s, rows[before + s]);
                rows[round * STATES + s] = row;
                parted |= row != rows[before + s];
            }
            return parted;
        }

        private int stillAlike(int s, int alikeBefore) {
            int found = 0;
            for (int t = 0; t < STATES; t++) {
                if (hasBit(alikeBefore, t) && movesAlike(s, t)) {
                    found |= 1 << t;
                }
            }
            return found;
        }

        /**
         * Being alike for k rounds parts the states into classes, so each move of either state has
         * its match just when both move into the same classes.
         */
        private boolean movesAlike(int s, int t) {
            for (int label = 0; label < LABELS; label++) {
                if (unions[s * LABELS + label] != unions[t * LABELS + label]) {
                    return false;
                }
            }
            return true;
        }

        private void numberKinds() {
            kindCount = 0;
            for (int s = 0; s < STATES; s++) {
                int least = leastAlike(s);
                if (least == s) {
                    kindOfState[s] = kindCount;
                    kindCount++;
                } else {
                    kindOfState[s] = kindOfState[least];
                }
            }
        }

        private int leastAlike(int s) {
            int row = alikeFor(lastRound, s);
            for (int t = 0; t < s; t++) {
                if (hasBit(row, t)) {
                    return t;
                }
            }
            return s;
        }

        /** The states that are alike to s for a number of rounds, of which there are lastRound at most. */
        int alikeFor(int rounds, int s) {
            return rows[rounds * STATES + s];
        }

        int breachOf(int s, int t) {
            for (int round = 0; round <= lastRound; round++) {
                if (!hasBit(alikeFor(round, s), t)) {
                    return round;
                }
            }
            return NONE;
        }

        int kindCount() {
            return kindCount;
        }

        int kindOf(int s) {
            return kindOfState[s];
        }

        int sizeOf(int kind) {
            int found = 0;
            for (int s = 0; s < STATES; s++) {
                if (kindOfState[s] == kind) {
                    found++;
                }
            }
            return found;
        }

        int kindsReached(int kind, int label) {
            int found = 0;
            for (int s = 0; s < STATES; s++) {
                if (kindOfState[s] == kind) {
                    found |= kindsAmong(net.targetsOf(s, label));
                }
            }
            return found;
        }

        private int kindsAmong(int states) {
            int found = 0;
            for (int t = 0; t < STATES; t++) {
                if (hasBit(states, t)) {
                    found |= 1 << kindOfState[t];
                }
            }
            return found;
        }

        int linkCount() {
            int found = 0;
            for (int kind = 0; kind < kindCount; kind++) {
                for (int label = 0; label < LABELS; label++) {
                    found += Integer.bitCount(kindsReached(kind, label));
                }
            }
            return found;
        }
    }

    /** Which state covers which. */
    private static final class Cover {
        private final Net net;
        private final int[] below;
        private final int[] unions;
        private boolean settled;

        Cover(Net net) {
            this.net = net;
            below = new int[STATES];
            unions = new int[STATES * LABELS];
        }

        void forget() {
            settled = false;
        }

        void settle() {
            if (settled) {
                return;
            }
            net.groupByColour(below);
            boolean shrunk = true;
            // A round that changes anything takes away one pair at least.
            for (int round = 0; round < STATES * STATES && shrunk; round++) {
                shrunk = shrinks();
            }
            settled = true;
        }

        /** Goes one round further, and says whether that took a pair away. */
        private boolean shrinks() {
            net.unite(below, 0, unions);
            boolean shrunk = false;
            for (int s = 0; s < STATES; s++) {
                int row = stillBelow(s);
                shrunk |= row != below[s];
                below[s] = row;
            }
            return shrunk;
        }

        private int stillBelow(int s) {
            int found = 0;
            for (int t = 0; t < STATES; t++) {
                if (hasBit(below[s], t) && canFollow(s, t)) {
                    found |= 1 << t;
                }
            }
            return found;
        }

        /** Whether every move of t leads to a state below one to which s can move by that label. */
        private boolean canFollow(int s, int t) {
            for (int label = 0; label < LABELS; label++) {
                if ((net.targetsOf(t, label) & ~unions[s * LABELS + label]) != 0) {
                    return false;
                }
            }
            return true;
        }

        int belowOf(int s) {
            return below[s];
        }
    }

    /**
     * The attacks on two states, and the play on them, which is kept until the next play. Its callers
     * have settled the likeness of states, which it reads.
     */
    private static final class Game {
        private final Net net;
        private final Likeness likeness;
        private final int[] sides;
        private final int[] made;
        private final int[] answered;
        private int length;

        Game(Net net, Likeness likeness) {
            this.net = net;
            this.likeness = likeness;
            sides = new int[2];
            // Every answer makes the breach less, and no breach is above 23.
            made = new int[STATES];
            answered = new int[STATES];
        }

        int countAttacks(int s, int t) {
            int rounds = likeness.breachOf(s, t) - 1;
            return rounds < 0 ? 0 : countOf(s, t, rounds) + countOf(t, s, rounds);
        }

        private int countOf(int attacker, int other, int rounds) {
            int found = 0;
            for (int label = 0; label < LABELS; label++) {
                for (int u = 0; u < STATES; u++) {
                    if (isAttack(attacker, other, label, u, rounds)) {
                        found++;
                    }
                }
            }
            return found;
        }

        private boolean isAttack(int attacker, int other, int label, int u, int rounds) {
            return hasBit(net.targetsOf(attacker, label), u)
                    && (likeness.alikeFor(rounds, u) & net.targetsOf(other, label)) == 0;
        }

        /** Plays on s and t, and answers how many attacks are made. */
        int playThrough(int s, int t) {
            sides[0] = s;
            sides[1] = t;
            length = 0;
            boolean goesOn = true;
            for (int i = 0; i < made.length && goesOn; i++) {
                goesOn = attackOnce();
            }
            return length;
        }

        /** Makes the next attack if there is one, and says whether it was made and answered. */
        private boolean attackOnce() {
            int rounds = likeness.breachOf(sides[0], sides[1]) - 1;
            if (rounds < 0) {
                return false;
            }
            int side = 0;
            int step = firstOf(sides[0], sides[1], rounds);
            if (step == NONE) {
                side = 1;
                step = firstOf(sides[1], sides[0], rounds);
            }
            if (step == NONE) {
                return false;
            }
            int reply = bestAnswer(sides[1 - side], step);
            made[length] = side * SIDE_WEIGHT + step;
            answered[length] = reply;
            length++;
            sides[side] = step % LABEL_WEIGHT;
            sides[1 - side] = reply;
            return reply != NONE;
        }

        /** The first attack of one of the two states, written without its side; NONE if it has none. */
        private int firstOf(int attacker, int other, int rounds) {
            for (int label = 0; label < LABELS; label++) {
                for (int u = 0; u < STATES; u++) {
                    if (isAttack(attacker, other, label, u, rounds)) {
                        return label * LABEL_WEIGHT + u;
                    }
                }
            }
            return NONE;
        }

        /** An attack leaves only states that differ, so that each of the answers has a breach. */
        private int bestAnswer(int other, int step) {
            int answers = net.targetsOf(other, step / LABEL_WEIGHT);
            int attacked = step % LABEL_WEIGHT;
            int best = NONE;
            int greatest = NONE;
            for (int v = 0; v < STATES; v++) {
                int apart = hasBit(answers, v) ? likeness.breachOf(attacked, v) : NONE;
                if (apart > greatest) {
                    best = v;
                    greatest = apart;
                }
            }
            return best;
        }

        int attackAt(int i) {
            return made[i];
        }

        int answerAt(int i) {
            return answered[i];
        }
    }
}
