/** The sentences of the document's Terms that name a boundary, each by itself and on both sides of it. */
public final class TermsEdgesTest {
    private static final int NONE = AlikeStates.NONE;

    private static final Checks checks = new Checks();

    public static void main(String[] args) {
        statesAre0To23();
        statesAreNoneBeyond();
        labelsAre0To3();
        labelsAreNoneBeyond();
        labelsDoNotRunIntoTheNextState();
        ofTheSameThereIsOneAtMost();
        ofAllTogether120();
        refusedMovesTakeNoRoom();
        coloursAreIntsFromTheLeastToTheGreatest();
        coloursThatDifferInOneBit();
        coloursAre0AtFirst();
        alikeFor0RoundsByColourAlone();
        alikeForOneRoundMoreByMovesOfEither();
        alikeWithoutAnyMove();
        alikeForEveryNumberOfRounds();
        breachIsTheLeastNumberOfRounds();
        greatestBreachIs23();
        greatestBreachWithOneColourMoreIs22();
        kindsAreLongestSets();
        kindsAreNumberedByTheirLeastStates();
        coversForEveryNumberOfRounds();
        attacksOfSBeforeThoseOfT();
        attacksOfAStateByTheLabel();
        attacksWithALabelByTheState();
        answersToTheGreatestBreach();
        answersOfSeveralToTheLeastState();
        playIsOverWithoutAnAnswer();
        playIsOverWithABreachOf0();
        the512thCallIsAnswered();
        checks.end();
    }

    /** "STATES are 0 .. 23": each of them is taken by every call. */
    private static void statesAre0To23() {
        for (int s = 0; s < 24; s++) {
            AlikeStates x = new AlikeStates();
            int other = 23 - s;
            checks.due("move from " + s, x.move(s, 0, other), true);
            checks.due("move to " + s, x.move(other, 1, s), true);
            checks.due("colour of " + s, x.colour(s, 1), true);
            checks.due("alike " + s, x.alike(s, s), true);
            checks.due("covers " + s, x.covers(s, s), true);
            checks.due("breach of " + s, x.breach(s, other), 0);
            checks.due("breach with " + s, x.breach(other, s), 0);
            checks.due("below " + s, x.below(s), 1);
            checks.due("kind of " + s, x.size(x.kind(s)), 1);
            checks.due("drop to " + s, x.drop(other, 1, s), true);
            checks.due("drop from " + s, x.drop(s, 0, other), true);
        }
    }

    /** "STATES are 0 .. 23": -1, 24 and all farther ones are taken by no call. */
    private static void statesAreNoneBeyond() {
        for (int none : Nets.NO_STATES) {
            AlikeStates x = Nets.chain(0);
            checks.due("move from " + none, x.move(none, 0, 0), false);
            checks.due("move to " + none, x.move(0, 0, none), false);
            checks.due("move from and to " + none, x.move(none, 0, none), false);
            checks.due("drop from " + none, x.drop(none, 0, 1), false);
            checks.due("drop to " + none, x.drop(0, 0, none), false);
            checks.due("colour of " + none, x.colour(none, 0), false);
            checks.due("alike " + none, x.alike(none, none), false);
            checks.due("covers " + none, x.covers(none, none), false);
            checks.due("breach of " + none, x.breach(none, 23), NONE);
            checks.due("breach with " + none, x.breach(23, none), NONE);
            checks.due("kind of " + none, x.kind(none), NONE);
            checks.due("below " + none, x.below(none), NONE);
            checks.due("moves", x.moves(), 23);
        }
    }

    /** "LABELS 0 .. 3": each of them is one of its own. */
    private static void labelsAre0To3() {
        AlikeStates x = new AlikeStates();
        for (int label = 0; label < 4; label++) {
            checks.due("move with " + label, x.move(23, label, 23), true);
            checks.due("reach by " + label, x.reach(1, label), 2);
            checks.due("moves", x.moves(), label + 1);
        }
        for (int label = 3; label >= 0; label--) {
            checks.due("drop with " + label, x.drop(23, label, 23), true);
            checks.due("reach by no move with " + label, x.reach(1, label), 0);
        }
    }

    /** "LABELS 0 .. 3": -1, 4 and all farther ones are none. */
    private static void labelsAreNoneBeyond() {
        AlikeStates x = new AlikeStates();
        for (int s = 0; s < 24; s++) {
            for (int label = 0; label < 4; label++) {
                Nets.add(x, s, label, s);
            }
        }
        for (int none : Nets.NO_LABELS) {
            checks.due("move with " + none, x.move(0, none, 1), false);
            checks.due("move from 23 with " + none, x.move(23, none, 0), false);
            checks.due("drop with " + none, x.drop(0, none, 0), false);
            checks.due("drop from 23 with " + none, x.drop(23, none, 23), false);
            checks.due("reach by " + none, x.reach(0, none), 0);
        }
        checks.due("moves", x.moves(), 96);
        checks.due("links", x.links(), 4);
    }

    /** The label after 3 of a state is not label 0 of the next one, nor the other way round. */
    private static void labelsDoNotRunIntoTheNextState() {
        AlikeStates x = Nets.of(1, 0, 5, 0, 3, 5);
        checks.due("drop(0, 4, 5)", x.drop(0, 4, 5), false);
        checks.due("drop(1, -1, 5)", x.drop(1, -1, 5), false);
        checks.due("drop(2, -4, 5)", x.drop(2, -4, 5), false);
        checks.due("drop(-1, 4, 5)", x.drop(-1, 4, 5), false);
        checks.due("reach(0, 4)", x.reach(0, 4), 0);
        checks.due("reach(1, -1)", x.reach(1, -1), 0);
        checks.due("move(2, 4, 5)", x.move(2, 4, 5), false);
        checks.due("move(3, -1, 5)", x.move(3, -1, 5), false);
        checks.due("moves", x.moves(), 2);
        checks.due("kinds", x.kinds(), 3);
    }

    /** "of the same there is one at most": the same state, label and state to go to. */
    private static void ofTheSameThereIsOneAtMost() {
        int[][] moves = {{0, 0, 0}, {0, 3, 23}, {23, 0, 0}, {23, 3, 23}, {12, 1, 13}};
        for (int[] m : moves) {
            AlikeStates x = new AlikeStates();
            checks.due("once", x.move(m[0], m[1], m[2]), true);
            checks.due("twice", x.move(m[0], m[1], m[2]), false);
            checks.due("one is there", x.moves(), 1);
            checks.due("from another state", x.move((m[0] + 1) % 24, m[1], m[2]), true);
            checks.due("with another label", x.move(m[0], (m[1] + 1) % 4, m[2]), true);
            checks.due("to another state", x.move(m[0], m[1], (m[2] + 1) % 24), true);
            checks.due("four are there", x.moves(), 4);
            checks.due("taken away", x.drop(m[0], m[1], m[2]), true);
            checks.due("it was one", x.drop(m[0], m[1], m[2]), false);
            checks.due("once again", x.move(m[0], m[1], m[2]), true);
            checks.due("twice again", x.move(m[0], m[1], m[2]), false);
        }
    }

    /** "of all together 120": the 120th and the one after it, and after a drop one more again. */
    private static void ofAllTogether120() {
        AlikeStates x = Nets.filled(119);
        checks.due("the 120th", x.move(23, 3, 23), true);
        checks.due("the 121st", x.move(23, 3, 22), false);
        checks.due("120 are there", x.moves(), 120);
        checks.due("the 121st is not there", x.drop(23, 3, 22), false);
        checks.due("a drop that is refused makes no room", x.move(23, 3, 22), false);
        checks.due("one less", x.drop(23, 3, 23), true);
        checks.due("119 are there", x.moves(), 119);
        checks.due("one more again", x.move(23, 3, 22), true);
        checks.due("and no other one", x.move(23, 3, 23), false);
        checks.due("clear", x.clear(), 120);
        for (int i = 0; i < 120; i++) {
            checks.due("after clear " + i, x.move(23 - i / 24, i % 4, i % 24), true);
        }
    }

    /** "of all together 120": what was refused before does not count among them. */
    private static void refusedMovesTakeNoRoom() {
        AlikeStates x = new AlikeStates();
        for (int i = 0; i < 120; i++) {
            checks.due("move " + i, x.move(i / 24, i % 4, i % 24), true);
            checks.due("move again " + i, x.move(i / 24, i % 4, i % 24), false);
            checks.due("no state " + i, x.move(i / 24, i % 4, 24), false);
        }
        checks.due("moves", x.moves(), 120);
        checks.due("the 121st", x.move(23, 0, 0), false);
    }

    /** "A state has a COLOUR, an int": the least and the greatest one are colours like others. */
    private static void coloursAreIntsFromTheLeastToTheGreatest() {
        int[] colours = {Nets.LEAST, Nets.LEAST + 1, -1, 0, 1, Nets.GREATEST - 1, Nets.GREATEST};
        AlikeStates x = new AlikeStates();
        for (int c : colours) {
            for (int d : colours) {
                checks.due("colour " + c, x.colour(0, c), true);
                checks.due("colour " + d, x.colour(23, d), true);
                checks.due("breach of " + c + " and " + d, x.breach(0, 23), c == d ? NONE : 0);
                checks.due("covers of " + c + " and " + d, x.covers(0, 23), c == d);
            }
        }
    }

    /** "an int": all of its bits count. */
    private static void coloursThatDifferInOneBit() {
        AlikeStates x = new AlikeStates();
        for (int bit = 0; bit < 32; bit++) {
            x.colour(5, 1 << bit);
            checks.due("bit " + bit + " of 5", x.alike(5, 6), false);
            x.colour(6, 1 << bit);
            checks.due("bit " + bit + " of both", x.alike(5, 6), true);
            x.colour(5, 0);
            checks.due("bit " + bit + " of 6", x.alike(5, 6), false);
            x.colour(6, 0);
        }
    }

    /** "0 at first": of every state, and no other colour. */
    private static void coloursAre0AtFirst() {
        for (int s = 0; s < 24; s++) {
            AlikeStates x = new AlikeStates();
            int other = (s + 7) % 24;
            x.colour(other, 0);
            checks.due("0 at first " + s, x.alike(s, other), true);
            x.colour(other, 1);
            checks.due("not 1 " + s, x.breach(s, other), 0);
            x.colour(other, -1);
            checks.due("not -1 " + s, x.breach(s, other), 0);
            x.colour(other, Nets.LEAST);
            checks.due("not the least " + s, x.breach(s, other), 0);
        }
    }

    /** "ALIKE FOR 0 ROUNDS when they have the same colour": whatever their moves are. */
    private static void alikeFor0RoundsByColourAlone() {
        AlikeStates x = Nets.of(0, 0, 5, 1, 0, 5, 2, 3, 6);
        checks.due("same moves, same colour", x.breach(0, 1), NONE);
        checks.due("other moves, same colour", x.breach(0, 2), 1);
        x.colour(0, 4);
        checks.due("same moves, other colour", x.breach(0, 1), 0);
        checks.due("other moves, other colour", x.breach(0, 2), 0);
        x.colour(2, 4);
        checks.due("other moves, same colour again", x.breach(2, 0), 1);
    }

    /** "for every move of either one there is a move of the other one with the same label". */
    private static void alikeForOneRoundMoreByMovesOfEither() {
        AlikeStates x = Nets.of(0, 1, 5);
        checks.due("a move of the first alone", x.breach(0, 23), 1);
        checks.due("a move of the second alone", x.breach(23, 0), 1);
        x.move(23, 2, 5);
        checks.due("with another label", x.breach(0, 23), 1);
        x.move(23, 1, 6);
        checks.due("one of two has none", x.breach(0, 23), 1);
        x.drop(23, 2, 5);
        checks.due("with the same label", x.breach(0, 23), NONE);
        x.colour(6, 1);
        checks.due("to another colour", x.breach(0, 23), 1);
        x.move(23, 1, 7);
        checks.due("one of two to another colour", x.breach(0, 23), 1);
        x.move(0, 1, 6);
        checks.due("each of two has one", x.breach(0, 23), NONE);
    }

    /** A net with no moves: the rounds after the first one tell nothing more. */
    private static void alikeWithoutAnyMove() {
        AlikeStates x = new AlikeStates();
        x.colour(7, 1);
        x.colour(9, 1);
        for (int s = 0; s < 24; s++) {
            boolean same = s == 7 || s == 9;
            checks.due("alike to 7", x.alike(7, s), same);
            checks.due("breach with 7", x.breach(s, 7), same ? NONE : 0);
            checks.due("attacks", x.attacks(7, s), 0);
            checks.due("play", x.play(s, 7), 0);
        }
    }

    /** "for every number of rounds": in rings of any length nobody ever comes to an end. */
    private static void alikeForEveryNumberOfRounds() {
        AlikeStates x = Nets.ring(2);
        checks.due("a ring of 24", x.kinds(), 1);
        x.drop(10, 2, 11);
        x.drop(23, 2, 0);
        x.move(10, 2, 0);
        checks.due("rings that are open are chains", x.kinds(), 14);
        x.move(23, 2, 11);
        checks.due("rings of 11 and of 13", x.kinds(), 1);
        x.colour(0, 1);
        x.colour(11, 1);
        checks.due("the 11th round tells them apart", x.breach(0, 11), 11);
    }

    /** "the least number of rounds for which they are not": every number from 1 to 23. */
    private static void breachIsTheLeastNumberOfRounds() {
        AlikeStates x = Nets.chain(1);
        for (int s = 0; s < 24; s++) {
            for (int t = 0; t < s; t++) {
                checks.due("breach of " + t + " and " + s, x.breach(t, s), 24 - s);
            }
            checks.due("breach of " + s + " and itself", x.breach(s, s), NONE);
        }
    }

    /** The greatest breach of 24 states: each of the 23 rounds tells one state more from the others. */
    private static void greatestBreachIs23() {
        AlikeStates x = new AlikeStates();
        for (int s = 1; s < 24; s++) {
            Nets.add(x, s, 3, s - 1);
        }
        checks.due("breach", x.breach(23, 22), 23);
        checks.due("the other way", x.breach(22, 23), 23);
        checks.due("one less", x.breach(22, 21), 22);
        checks.due("kinds", x.kinds(), 24);
        checks.due("play", x.play(23, 22), 23);
        checks.due("first attack", x.attack(23, 22, 0), 322);
        checks.due("first answer", x.answer(23, 22, 0), 21);
        checks.due("last attack but one", x.attack(23, 22, 21), 301);
        checks.due("last answer", x.answer(23, 22, 21), 0);
        checks.due("last attack", x.attack(23, 22, 22), 300);
        checks.due("no answer to it", x.answer(23, 22, 22), NONE);
        checks.due("no attack more", x.attack(23, 22, 23), NONE);
        checks.due("nor answer", x.answer(23, 22, 23), NONE);
        checks.due("from the other side", x.attack(22, 23, 22), 1300);
        checks.due("covers", x.covers(23, 22), true);
        checks.due("is not covered", x.covers(22, 23), false);
        x.move(0, 3, 0);
        checks.due("without an end", x.breach(23, 22), NONE);
    }

    /** With two colours at first, a round less is enough to tell all states apart. */
    private static void greatestBreachWithOneColourMoreIs22() {
        AlikeStates x = Nets.ring(0);
        x.colour(23, 1);
        checks.due("kinds", x.kinds(), 24);
        checks.due("breach", x.breach(0, 1), 22);
        checks.due("the least one", x.breach(22, 23), 0);
        checks.due("the least one but one", x.breach(22, 21), 1);
        checks.due("play", x.play(0, 1), 22);
        checks.due("last attack", x.attack(0, 1, 21), 22);
        checks.due("last answer", x.answer(0, 1, 21), 23);
        checks.due("no attack more", x.attack(0, 1, 22), NONE);
    }

    /** "A KIND is a longest set of states that are alike". */
    private static void kindsAreLongestSets() {
        AlikeStates x = Nets.chain(0);
        x.drop(11, 0, 12);
        x.colour(3, 8);
        x.colour(15, 8);
        int[] kinds = new int[24];
        for (int s = 0; s < 24; s++) {
            kinds[s] = x.kind(s);
            for (int t = 0; t < s; t++) {
                checks.due("alike " + t + " and " + s, x.alike(t, s), kinds[t] == kinds[s]);
            }
        }
        checks.due("kinds of two chains that do the same", x.kinds(), 12);
    }

    /** "kinds are numbered from 0 by their least states": not by colours, moves or rounds. */
    private static void kindsAreNumberedByTheirLeastStates() {
        AlikeStates x = new AlikeStates();
        for (int s = 0; s < 24; s++) {
            x.colour(s, -s);
        }
        checkKinds("colours downwards", x, 24);
        for (int s = 12; s < 24; s++) {
            x.colour(s, s - 23);
        }
        checkKinds("each colour twice", x, 12);
        x.clear();
        checkKinds("cleared", x, 1);
        AlikeStates y = new AlikeStates();
        for (int s = 1; s < 24; s++) {
            Nets.add(y, s, 0, s - 1);
        }
        checkKinds("chain downwards", y, 24);
        checkKinds("chain upwards", Nets.chain(0), 24);
        AlikeStates z = Nets.coloured(24);
        z.colour(23, 0);
        checks.due("a kind less", z.kinds(), 23);
        checks.due("the last state in the first kind", z.kind(23), 0);
        checks.due("the others stay", z.kind(22), 22);
        z.colour(0, 1);
        checks.due("its least state is 23 now", z.kind(23), 22);
        checks.due("state 0 with state 1", z.kind(1), 0);
        checks.due("state 2 is the next one", z.kind(2), 1);
    }

    /** State s is the least one of kind s, or of the kind of state 23 - s, if there are so many kinds. */
    private static void checkKinds(String what, AlikeStates x, int kinds) {
        for (int s = 0; s < 24; s++) {
            int due = kinds == 1 ? 0 : s < kinds ? s : 23 - s;
            checks.due(what + ": kind of " + s, x.kind(s), due);
        }
    }

    /**
     * "It COVERS it when it does so for every number of rounds": state 0 of a ring of 11 lacks a move that
     * one state of a ring of 12 has, and some two states come to these only after 131 rounds.
     */
    private static void coversForEveryNumberOfRounds() {
        AlikeStates x = new AlikeStates();
        for (int i = 0; i < 11; i++) {
            Nets.add(x, i, 0, (i + 1) % 11);
            if (i != 0) {
                Nets.add(x, i, 1, 23);
            }
        }
        for (int j = 0; j < 12; j++) {
            Nets.add(x, 11 + j, 0, 11 + (j + 1) % 12);
        }
        Nets.add(x, 11, 1, 23);
        checks.due("131 rounds away", x.covers(1, 12), false);
        checks.due("at once", x.covers(0, 11), false);
        checks.due("itself and the end alone", x.below(1), 2);
        checks.due("the move added", x.move(0, 1, 23), true);
        checks.due("covers for ever", x.covers(1, 12), true);
        checks.due("both rings and the end", x.below(1), 24);
    }

    /** "those of s before those of t". */
    private static void attacksOfSBeforeThoseOfT() {
        AlikeStates x = Nets.of(5, 3, 23, 2, 0, 0);
        checks.due("5 is s", x.attack(5, 2, 0), 323);
        checks.due("2 is s", x.attack(2, 5, 0), 0);
        checks.due("both count", x.attacks(5, 2), 2);
        x.drop(5, 3, 23);
        checks.due("5 is s and has none", x.attack(5, 2, 0), 1000);
        checks.due("5 is t and has none", x.attack(2, 5, 0), 0);
        AlikeStates y = Nets.of(8, 0, 23, 8, 1, 0, 8, 1, 22, 8, 3, 5, 9, 2, 1, 9, 2, 7);
        int[] order = {23, 100, 122, 305, 1201, 1207};
        for (int i = 0; i < order.length; i++) {
            checks.due("attacks left", y.attacks(8, 9), order.length - i);
            checks.due("the first of these", y.attack(8, 9, 0), order[i]);
            y.drop(order[i] < 1000 ? 8 : 9, order[i] / 100 % 10, order[i] % 100);
        }
        checks.due("none is left", y.attack(8, 9, 0), NONE);
    }

    /** "of the same state by the label": before the state to which they go. */
    private static void attacksOfAStateByTheLabel() {
        AlikeStates x = Nets.of(7, 3, 0);
        checks.due("label 3", x.attack(7, 8, 0), 300);
        x.move(7, 2, 1);
        checks.due("label 2", x.attack(7, 8, 0), 201);
        x.move(7, 1, 2);
        checks.due("label 1", x.attack(8, 7, 0), 1102);
        x.move(7, 0, 23);
        checks.due("label 0", x.attack(7, 8, 0), 23);
        checks.due("on the side of t", x.attack(8, 7, 0), 1023);
    }

    /** "then by the state to which they go". */
    private static void attacksWithALabelByTheState() {
        AlikeStates x = Nets.of(7, 2, 23);
        checks.due("state 23", x.attack(7, 8, 0), 223);
        x.move(7, 2, 11);
        checks.due("state 11", x.attack(7, 8, 0), 211);
        x.move(7, 2, 12);
        checks.due("state 11 still", x.attack(8, 7, 0), 1211);
        x.move(7, 2, 0);
        checks.due("state 0", x.attack(7, 8, 0), 200);
        checks.due("on the side of t", x.attack(8, 7, 0), 1200);
    }

    /** State 20 goes to 10, which has three moves before it; 0, 11 and 23 have two, 12 has one, 13 none. */
    private static AlikeStates netOfAnswers() {
        AlikeStates x = Nets.of(10, 0, 11, 11, 0, 12, 12, 0, 13, 0, 0, 12, 23, 0, 12, 20, 0, 10);
        x.colour(22, 1);
        return x;
    }

    /** "after which the breach of the two states that are come to is the greatest". */
    private static void answersToTheGreatestBreach() {
        AlikeStates x = netOfAnswers();
        int[] answers = {NONE, 22, 13, 12, 23};
        int[] lengths = {1, 1, 2, 3, 4};
        for (int i = 0; i < answers.length; i++) {
            if (i > 0) {
                // State 20 gets the move too, so that this move of 21 is no attack itself.
                Nets.add(x, 20, 0, answers[i]);
                Nets.add(x, 21, 0, answers[i]);
            }
            checks.due("attack " + i, x.attack(20, 21, 0), 10);
            checks.due("answer " + i, x.answer(20, 21, 0), answers[i]);
            checks.due("play " + i, x.play(20, 21), lengths[i]);
        }
    }

    /** "of several by the one to the least state". */
    private static void answersOfSeveralToTheLeastState() {
        AlikeStates x = netOfAnswers();
        for (int answer : new int[] {23, 11, 0}) {
            Nets.add(x, 21, 0, answer);
            checks.due("breach", x.breach(10, answer), 3);
            checks.due("answer", x.answer(20, 21, 0), answer);
        }
        x.drop(21, 0, 0);
        checks.due("state 11 again", x.answer(20, 21, 0), 11);
        x.drop(21, 0, 11);
        checks.due("state 23 again", x.answer(20, 21, 0), 23);
    }

    /** "If there is no answer .. the play is over": at once, or after some answers. */
    private static void playIsOverWithoutAnAnswer() {
        AlikeStates x = Nets.of(0, 1, 23, 23, 2, 5, 1, 1, 22);
        checks.due("at once", x.play(23, 22), 1);
        checks.due("the attack", x.attack(23, 22, 0), 205);
        checks.due("no answer", x.answer(23, 22, 0), NONE);
        checks.due("no attack more", x.attack(23, 22, 1), NONE);
        checks.due("after an answer", x.play(0, 1), 2);
        checks.due("the answer", x.answer(0, 1, 0), 22);
        checks.due("the last attack", x.attack(0, 1, 1), 205);
        checks.due("no answer to it", x.answer(0, 1, 1), NONE);
        checks.due("nor an attack more", x.attack(0, 1, 2), NONE);
    }

    /** "or the breach is 0, the play is over": before any attack, or after an answer. */
    private static void playIsOverWithABreachOf0() {
        AlikeStates x = Nets.of(0, 1, 23, 1, 1, 22, 23, 2, 5);
        x.colour(22, Nets.LEAST);
        checks.due("before any attack", x.play(23, 22), 0);
        checks.due("no attack", x.attack(23, 22, 0), NONE);
        checks.due("no answer", x.answer(23, 22, 0), NONE);
        checks.due("after an answer", x.play(0, 1), 1);
        checks.due("the attack", x.attack(0, 1, 0), 123);
        checks.due("the answer", x.answer(0, 1, 0), 22);
        checks.due("no attack more", x.attack(0, 1, 1), NONE);
        checks.due("nor an answer", x.answer(0, 1, 1), NONE);
    }

    /** "An object is used for at most 512 calls": the last one of them is answered as the first is. */
    private static void the512thCallIsAnswered() {
        checks.due("moves", after511Calls().moves(), 23);
        checks.due("move", after511Calls().move(23, 3, 23), true);
        checks.due("drop", after511Calls().drop(22, 0, 23), true);
        checks.due("colour", after511Calls().colour(23, 1), true);
        checks.due("clear", after511Calls().clear(), 23);
        checks.due("alike", after511Calls().alike(0, 1), false);
        checks.due("breach", after511Calls().breach(0, 1), 23);
        checks.due("kinds", after511Calls().kinds(), 24);
        checks.due("kind", after511Calls().kind(23), 23);
        checks.due("size", after511Calls().size(23), 1);
        checks.due("reach", after511Calls().reach(22, 0), 1 << 23);
        checks.due("links", after511Calls().links(), 23);
        checks.due("covers", after511Calls().covers(1, 0), false);
        checks.due("below", after511Calls().below(0), 24);
        checks.due("attacks", after511Calls().attacks(0, 1), 2);
        checks.due("play", after511Calls().play(0, 1), 23);
        checks.due("attack", after511Calls().attack(0, 1, 22), 23);
        checks.due("answer", after511Calls().answer(0, 1, 21), 23);
    }

    /** A chain, made by 23 calls, and 488 that change it and change it back. */
    private static AlikeStates after511Calls() {
        AlikeStates x = Nets.chain(0);
        for (int i = 0; i < 122; i++) {
            Nets.add(x, 23, 0, 23);
            checks.due("a chain with a loop", x.kinds(), 1);
            checks.due("drop of the loop", x.drop(23, 0, 23), true);
            checks.due("a chain", x.kinds(), 24);
        }
        return x;
    }
}
