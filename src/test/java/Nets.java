/** Nets that several tests ask about, and ints that are no state, no label, no kind or no attack. */
final class Nets {
    static final int LEAST = Integer.MIN_VALUE;
    static final int GREATEST = Integer.MAX_VALUE;

    /** Those behind the ends come to a state when a shift, a product or a narrower type wraps around. */
    static final int[] NO_STATES = {
        -1, 24, LEAST, GREATEST, 25, -24, 32, 55, 56, -8, 96, 256, 1 << 16, 1 << 30, (1 << 30) + 1, LEAST + 23
    };
    static final int[] NO_LABELS = {
        -1, 4, LEAST, GREATEST, 5, -4, 7, 32, 96, 256, 1 << 16, 1 << 30, LEAST + 3
    };

    private Nets() {
    }

    /** A net from rows of state, label and state. */
    static AlikeStates of(int... moves) {
        AlikeStates x = new AlikeStates();
        for (int i = 0; i < moves.length; i += 3) {
            add(x, moves[i], moves[i + 1], moves[i + 2]);
        }
        return x;
    }

    /** A move that has to be added, since the test is about what comes after it. */
    static void add(AlikeStates x, int s, int label, int t) {
        if (!x.move(s, label, t)) {
            throw new AssertionError("move(" + s + ", " + label + ", " + t + ") is refused");
        }
    }

    /** States 0 to 23 in a row, each with a move with the label to the next one. */
    static AlikeStates chain(int label) {
        AlikeStates x = new AlikeStates();
        for (int s = 0; s < 23; s++) {
            add(x, s, label, s + 1);
        }
        return x;
    }

    /** A chain that comes back from state 23 to state 0. */
    static AlikeStates ring(int label) {
        AlikeStates x = chain(label);
        add(x, 23, label, 0);
        return x;
    }

    /** The first moves, up to 120, of those with all labels from states 0 and 1 to states 0 to 14. */
    static AlikeStates filled(int moves) {
        AlikeStates x = new AlikeStates();
        for (int i = 0; i < moves; i++) {
            add(x, i / 60, i / 15 % 4, i % 15);
        }
        return x;
    }

    static AlikeStates full() {
        return filled(120);
    }

    /** No moves; states 0 to colours - 1 have a colour each, and the others that of the last of these. */
    static AlikeStates coloured(int colours) {
        AlikeStates x = new AlikeStates();
        for (int s = 0; s < 24; s++) {
            x.colour(s, Math.min(s, colours - 1));
        }
        return x;
    }
}
