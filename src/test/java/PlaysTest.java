import java.util.function.Supplier;

/**
 * Plays of several attacks, worked out by hand from the words of the document: every attack and every
 * answer of them is asked for, to the one after the last.
 */
public final class PlaysTest {
    private static final int NONE = AlikeStates.NONE;

    private static final Checks checks = new Checks();

    public static void main(String[] args) {
        chainFromS();
        chainFromT();
        sidesByTurnsToABreachOf0();
        sidesByTurnsToNoAnswer();
        allOnTheSideOfT();
        firstOfSeveralAttacks();
        attacksThatAreNotTheFirstMove();
        answerToTheGreatestBreach();
        answerToTheLeastOfSeveral();
        answersToChooseFromInEveryRound();
        answersOfTwins();
        ringsOf11And13();
        playAfterAChange();
        checks.end();
    }

    /**
     * Asks for the whole play of a new object.
     *
     * @param due for each attack of the play, the attack and its answer
     */
    private static void play(String what, Supplier<AlikeStates> made, int s, int t, int... due) {
        play(what, made.get(), s, t, due);
    }

    private static void play(String what, AlikeStates x, int s, int t, int... due) {
        String name = what + ", play on " + s + " and " + t + ": ";
        int length = due.length / 2;
        checks.due(name + "attacks made", x.play(s, t), length);
        for (int i = 0; i < length; i++) {
            checks.due(name + "attack " + i, x.attack(s, t, i), due[2 * i]);
            checks.due(name + "answer " + i, x.answer(s, t, i), due[2 * i + 1]);
        }
        for (int i : new int[] {length, length + 1, -1, 24, Nets.LEAST, Nets.GREATEST}) {
            checks.due(name + "attack " + i, x.attack(s, t, i), NONE);
            checks.due(name + "answer " + i, x.answer(s, t, i), NONE);
        }
    }

    /** State t is nearer to the end of the chain: the last move of s is not answered. */
    private static void chainFromS() {
        for (int s = 0; s < 23; s++) {
            for (int t = s + 1; t < 24; t++) {
                int[] due = new int[2 * (24 - t)];
                for (int i = 0; i < 24 - t; i++) {
                    due[2 * i] = 200 + s + 1 + i;
                    due[2 * i + 1] = i == 23 - t ? NONE : t + 1 + i;
                }
                play("a chain from s", () -> Nets.chain(2), s, t, due);
            }
        }
    }

    /** State s is nearer to the end: it attacks as long as it has moves, and then t has one more. */
    private static void chainFromT() {
        for (int t = 0; t < 23; t++) {
            for (int s = t + 1; s < 24; s++) {
                int[] due = new int[2 * (24 - s)];
                for (int i = 0; i < 24 - s; i++) {
                    boolean last = i == 23 - s;
                    due[2 * i] = last ? 1200 + t + 1 + i : 200 + s + 1 + i;
                    due[2 * i + 1] = last ? NONE : t + 1 + i;
                }
                play("a chain from t", () -> Nets.chain(2), s, t, due);
            }
        }
    }

    /**
     * States n and 12 + n for n from 1 to 11: each has a move to that one of n - 1 and 12 + n - 1 with
     * which nothing can be told; the one whose turn it is has a move to the other one too.
     */
    private static AlikeStates turns() {
        AlikeStates x = new AlikeStates();
        for (int n = 1; n < 12; n++) {
            boolean turnOfN = n % 2 == 0;
            int shared = turnOfN ? 12 + n - 1 : n - 1;
            Nets.add(x, n, n % 4, shared);
            Nets.add(x, 12 + n, n % 4, shared);
            Nets.add(x, turnOfN ? n : 12 + n, n % 4, turnOfN ? n - 1 : 12 + n - 1);
        }
        return x;
    }

    private static AlikeStates turnsWithAColour() {
        AlikeStates x = turns();
        x.colour(0, 1);
        return x;
    }

    private static AlikeStates turnsWithALoop() {
        AlikeStates x = turns();
        Nets.add(x, 0, 0, 0);
        return x;
    }

    private static void sidesByTurnsToABreachOf0() {
        play("by turns", PlaysTest::turnsWithAColour, 11, 23, 1322, 10, 209, 21, 1120, 8, 7, 19, 1318, 6,
                205, 17, 1116, 4, 3, 15, 1314, 2, 201, 13, 1112, 0);
        play("by turns", PlaysTest::turnsWithAColour, 23, 11, 322, 10, 1209, 21, 120, 8, 1007, 19, 318, 6,
                1205, 17, 116, 4, 1003, 15, 314, 2, 1201, 13, 112, 0);
        play("by turns", PlaysTest::turnsWithAColour, 2, 14, 201, 13, 1112, 0);
        play("by turns", PlaysTest::turnsWithAColour, 1, 13, 1112, 0);
        play("by turns", PlaysTest::turnsWithAColour, 0, 12);
    }

    private static void sidesByTurnsToNoAnswer() {
        play("by turns", PlaysTest::turnsWithALoop, 11, 23, 1322, 10, 209, 21, 1120, 8, 7, 19, 1318, 6,
                205, 17, 1116, 4, 3, 15, 1314, 2, 201, 13, 1112, 0, 0, NONE);
        play("by turns", PlaysTest::turnsWithALoop, 23, 11, 322, 10, 1209, 21, 120, 8, 1007, 19, 318, 6,
                1205, 17, 116, 4, 1003, 15, 314, 2, 1201, 13, 112, 0, 1000, NONE);
        play("by turns", PlaysTest::turnsWithALoop, 0, 12, 0, NONE);
        play("by turns", PlaysTest::turnsWithALoop, 12, 0, 1000, NONE);
    }

    /** State 10 + n does what n does, and has a move more, which is the only attack. */
    private static void allOnTheSideOfT() {
        Supplier<AlikeStates> made = () -> {
            AlikeStates x = new AlikeStates();
            for (int n = 1; n <= 6; n++) {
                Nets.add(x, n, 3, n - 1);
                Nets.add(x, 10 + n, 3, n - 1);
                Nets.add(x, 10 + n, 3, 10 + n - 1);
            }
            x.colour(10, -1);
            return x;
        };
        play("of t alone", made, 6, 16, 1315, 5, 1314, 4, 1313, 3, 1312, 2, 1311, 1, 1310, 0);
        play("of s alone", made, 16, 6, 315, 5, 314, 4, 313, 3, 312, 2, 311, 1, 310, 0);
    }

    /** States 0 and 1 have two attacks each, and so have the states that they come to. */
    private static void firstOfSeveralAttacks() {
        Supplier<AlikeStates> made = () -> Nets.of(0, 2, 5, 0, 2, 4, 1, 2, 7, 1, 2, 6,
                4, 1, 9, 4, 1, 8, 4, 3, 0, 5, 1, 9, 6, 0, 23, 6, 0, 22, 7, 0, 23);
        checks.due("attacks on 0 and 1", made.get().attacks(0, 1), 4);
        checks.due("attacks on 4 and 6", made.get().attacks(4, 6), 5);
        play("the first of several", made, 0, 1, 204, 6, 108, NONE);
        play("the first of several", made, 1, 0, 206, 4, 22, NONE);
        play("the first of several", made, 4, 6, 108, NONE);
        play("the first of several", made, 6, 4, 22, NONE);
        play("the first of several", made, 1, 5, 206, NONE);
    }

    /** Moves with lesser labels, and to lesser states, that the other one has as well, are no attacks. */
    private static void attacksThatAreNotTheFirstMove() {
        Supplier<AlikeStates> made = () -> {
            AlikeStates x = Nets.of(20, 0, 3, 20, 1, 2, 20, 1, 3, 20, 2, 1, 21, 0, 3, 21, 1, 2, 21, 2, 0);
            Nets.add(x, 3, 3, 1);
            Nets.add(x, 2, 3, 0);
            x.colour(1, 7);
            return x;
        };
        checks.due("breach", made.get().breach(20, 21), 1);
        play("not the first move", made, 20, 21, 201, 0);
        play("not the first move", made, 21, 20, 200, 1);
        Supplier<AlikeStates> longer = () -> {
            AlikeStates x = made.get();
            x.drop(20, 2, 1);
            x.drop(21, 2, 0);
            return x;
        };
        checks.due("breach of the longer one", longer.get().breach(20, 21), 2);
        play("not the first move", longer, 20, 21, 103, 2, 301, 0);
        play("not the first move", longer, 21, 20, 1103, 2, 300, 1);
    }

    /** State n of 0 to 9 has n moves before it; 10 is alike to 5, and 11 to 6. */
    private static AlikeStates line() {
        AlikeStates x = new AlikeStates();
        for (int n = 1; n < 10; n++) {
            Nets.add(x, n, 0, n - 1);
        }
        Nets.add(x, 10, 0, 4);
        Nets.add(x, 11, 0, 5);
        return x;
    }

    /** State 20 goes to 9 and, as state 21 does, to all the answers. */
    private static AlikeStates lineWithAnswers(int... answers) {
        AlikeStates x = line();
        Nets.add(x, 20, 1, 9);
        for (int v : answers) {
            Nets.add(x, 20, 1, v);
            Nets.add(x, 21, 1, v);
        }
        return x;
    }

    /** "by that move .. after which the breach of the two states that are come to is the greatest". */
    private static void answerToTheGreatestBreach() {
        play("one answer", () -> lineWithAnswers(0), 20, 21, 109, 0, 8, NONE);
        play("the greater one", () -> lineWithAnswers(0, 1), 20, 21, 109, 1, 8, 0, 7, NONE);
        play("the least state is the greatest", () -> lineWithAnswers(2, 12, 13), 20, 21,
                109, 2, 8, 1, 7, 0, 6, NONE);
        play("the one in the midst", () -> lineWithAnswers(0, 3, 12), 20, 21,
                109, 3, 8, 2, 7, 1, 6, 0, 5, NONE);
        play("the greatest state", () -> lineWithAnswers(0, 1, 2, 3, 4), 20, 21,
                109, 4, 8, 3, 7, 2, 6, 1, 5, 0, 4, NONE);
        play("on the side of s", () -> lineWithAnswers(0, 1, 2, 3, 4), 21, 20,
                1109, 4, 3, 8, 2, 7, 1, 6, 0, 5, 1004, NONE);
        Supplier<AlikeStates> coloured = () -> {
            AlikeStates x = lineWithAnswers(0, 2, 12);
            x.colour(0, 4);
            return x;
        };
        // State 8 and the others that have moves differ only in how far they are from state 0.
        play("with a colour at the end", coloured, 20, 21, 109, 2, 8, 1, 7, 0);
    }

    /** "of several by the one to the least state". */
    private static void answerToTheLeastOfSeveral() {
        play("of two", () -> lineWithAnswers(5, 10, 3), 20, 21,
                109, 5, 8, 4, 7, 3, 6, 2, 5, 1, 4, 0, 3, NONE);
        play("of two, with the other side first", () -> lineWithAnswers(5, 10, 3), 21, 20,
                1109, 5, 4, 8, 3, 7, 2, 6, 1, 5, 0, 4, 1003, NONE);
        play("the lesser one is not there", () -> lineWithAnswers(10, 3), 20, 21,
                109, 10, 8, 4, 7, 3, 6, 2, 5, 1, 4, 0, 3, NONE);
        play("the twin of a greater one", () -> lineWithAnswers(5, 10, 11), 20, 21,
                109, 11, 8, 5, 7, 4, 6, 3, 5, 2, 4, 1, 3, 0, 2, NONE);
        play("of two that are greater", () -> lineWithAnswers(10, 5, 11, 6), 20, 21,
                109, 6, 8, 5, 7, 4, 6, 3, 5, 2, 4, 1, 3, 0, 2, NONE);
        play("of three that have no move", () -> lineWithAnswers(13, 12, 14), 20, 21, 109, 12, 8, NONE);
    }

    /**
     * States 2 + n and 12 + n are twins, and so are 7 + n and 17 + n, for n from 0 to 4. Those of an even n
     * above 0 are told apart by a move of the first two, those of an odd one by a move of the others; every
     * move that can be the answer goes to either of two twins, to state 0, which has another colour than
     * all, or, above 2, to state 1, which has no move.
     */
    private static AlikeStates twins() {
        AlikeStates x = new AlikeStates();
        x.colour(0, 5);
        for (int twin = 0; twin <= 10; twin += 10) {
            x.colour(2 + twin, 1);
            x.colour(7 + twin, 2);
            for (int n = 1; n < 5; n++) {
                boolean even = n % 2 == 0;
                addAnswers(x, 2 + n + twin, n, even ? 7 : 2);
                addAnswers(x, 7 + n + twin, n, even ? 7 : 2);
                Nets.add(x, (even ? 2 : 7) + n + twin, n % 4, (even ? 2 : 7) + n - 1);
            }
        }
        return x;
    }

    private static void addAnswers(AlikeStates x, int s, int n, int row) {
        Nets.add(x, s, n % 4, row + n - 1);
        Nets.add(x, s, n % 4, row + n - 1 + 10);
        Nets.add(x, s, n % 4, 0);
        if (n > 2) {
            Nets.add(x, s, n % 4, 1);
        }
    }

    private static void answersToChooseFromInEveryRound() {
        play("in every round", PlaysTest::twins, 6, 11, 5, 10, 1309, 4, 203, 8, 1107, 0);
        play("in every round", PlaysTest::twins, 11, 6, 1005, 10, 309, 4, 1203, 8, 107, 0);
        play("in every round", PlaysTest::twins, 5, 10, 1309, 4, 203, 8, 1107, 0);
        play("in every round", PlaysTest::twins, 16, 21, 5, 10, 1309, 4, 203, 8, 1107, 0);
    }

    /** Without the move to one of two twins the answer goes to the other one. */
    private static void answersOfTwins() {
        Supplier<AlikeStates> made = () -> {
            AlikeStates x = twins();
            int[][] gone = {{6, 0, 10}, {11, 0, 10}, {5, 3, 4}, {10, 3, 4}, {15, 3, 4}, {20, 3, 4}};
            for (int[] m : gone) {
                x.drop(m[0], m[1], m[2]);
            }
            return x;
        };
        play("the other twin", made, 6, 11, 5, 20, 1309, 14, 203, 8, 1107, 0);
        play("the other twin", made, 11, 6, 1005, 20, 309, 14, 1203, 8, 107, 0);
    }

    /** Two rings of 11 and of 13 with one state of another colour each: both sides come by all of theirs. */
    private static void ringsOf11And13() {
        Supplier<AlikeStates> made = () -> {
            AlikeStates x = new AlikeStates();
            for (int s = 0; s < 11; s++) {
                Nets.add(x, s, 1, (s + 1) % 11);
            }
            for (int s = 0; s < 13; s++) {
                Nets.add(x, 11 + s, 1, 11 + (s + 1) % 13);
            }
            x.colour(0, 1);
            x.colour(11, 1);
            return x;
        };
        play("rings", made, 0, 11, 101, 12, 102, 13, 103, 14, 104, 15, 105, 16, 106, 17, 107, 18, 108, 19,
                109, 20, 110, 21, 100, 22);
        play("rings", made, 11, 0, 112, 1, 113, 2, 114, 3, 115, 4, 116, 5, 117, 6, 118, 7, 119, 8, 120, 9,
                121, 10, 122, 0);
    }

    /** The same object is asked for the whole play after each change. */
    private static void playAfterAChange() {
        AlikeStates x = lineWithAnswers(1, 2);
        play("at first", x, 20, 21, 109, 2, 8, 1, 7, 0, 6, NONE);
        x.drop(21, 1, 2);
        play("an answer less", x, 20, 21, 102, 1, 1, 0, 0, NONE);
        x.move(21, 1, 3);
        play("a better answer", x, 20, 21, 102, 3, 1, 2, 0, 1, 1000, NONE);
        x.move(20, 1, 3);
        play("a move that is no attack", x, 20, 21, 102, 3, 1, 2, 0, 1, 1000, NONE);
        x.move(21, 1, 2);
        play("another first attack", x, 20, 21, 109, 3, 8, 2, 7, 1, 6, 0, 5, NONE);
        x.move(21, 1, 9);
        play("alike", x, 20, 21);
        x.colour(21, 3);
        play("another colour", x, 20, 21);
        x.colour(20, 3);
        play("alike again", x, 20, 21);
        x.drop(20, 1, 9);
        play("on the side of t", x, 20, 21, 1109, 3, 2, 8, 1, 7, 0, 6, 1005, NONE);
        x.clear();
        play("cleared", x, 20, 21);
    }
}
