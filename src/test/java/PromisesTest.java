/** Each promise by itself: ordinary inputs, the edges that the document names, and wrong inputs. */
public final class PromisesTest {
    private static final int NONE = AlikeStates.NONE;
    private static final int[] NO_STATES = Nets.NO_STATES;
    private static final int[] NO_LABELS = Nets.NO_LABELS;

    private static final Checks checks = new Checks();

    public static void main(String[] args) {
        promise1NewObject();
        promise2Move();
        promise2FullNet();
        promise3Drop();
        promise4Colour();
        promise5Moves();
        promise6Clear();
        promise7Alike();
        promise8Breach();
        promise8LongestBreach();
        promise9Kinds();
        promise10Kind();
        promise11Size();
        promise12Reach();
        promise13Links();
        promise14Covers();
        promise15Below();
        promise16Attacks();
        promise17Play();
        promise18Attack();
        promise18OrderOfAttacks();
        promise19Answer();
        promise19OrderOfAnswers();
        sidesStayWhereTheyWere();
        objectsDoNotShare();
        answersFollowEveryChange();
        checks.end();
    }

    private static void promise1NewObject() {
        AlikeStates x = new AlikeStates();
        checks.due("1: NONE", NONE, -1);
        checks.due("1: moves", x.moves(), 0);
        checks.due("1: kinds", x.kinds(), 1);
        checks.due("1: links", x.links(), 0);
        for (int s = 0; s < 24; s++) {
            checks.due("1: kind", x.kind(s), 0);
            checks.due("1: below", x.below(s), 24);
            for (int label = 0; label < 4; label++) {
                checks.due("1: drop", x.drop(s, label, 23 - s), false);
            }
        }
        x.colour(7, 0);
        checks.due("1: all colours are 0", x.kinds(), 1);
    }

    private static void promise2Move() {
        AlikeStates x = new AlikeStates();
        checks.due("2: move(23, 3, 23)", x.move(23, 3, 23), true);
        checks.due("2: move(0, 0, 0)", x.move(0, 0, 0), true);
        checks.due("2: it is there already", x.move(23, 3, 23), false);
        checks.due("2: another label", x.move(23, 2, 23), true);
        checks.due("2: another state to go to", x.move(23, 3, 0), true);
        checks.due("2: another state to go from", x.move(0, 3, 23), true);
        for (int none : NO_STATES) {
            checks.due("2: no state " + none, x.move(none, 0, 1), false);
            checks.due("2: to no state " + none, x.move(1, 0, none), false);
        }
        for (int none : NO_LABELS) {
            checks.due("2: no label " + none, x.move(1, none, 1), false);
        }
        checks.due("2: moves", x.moves(), 5);
        checks.due("2: reach", x.reach(x.kind(23), 3), (1 << x.kind(23)) | 1);
    }

    private static void promise2FullNet() {
        AlikeStates x = Nets.full();
        checks.due("2: 120 moves", x.moves(), 120);
        checks.due("2: the 121st", x.move(2, 0, 2), false);
        checks.due("2: still 120", x.moves(), 120);
        checks.due("2: one that is there", x.move(0, 0, 0), false);
        checks.due("2: the 121st is not there", x.drop(2, 0, 2), false);
        checks.due("2: room again", x.drop(0, 0, 0), true);
        checks.due("2: the 120th again", x.move(2, 0, 2), true);
        checks.due("2: the 121st again", x.move(0, 0, 0), false);
        checks.due("2: all of them", x.clear(), 120);
        checks.due("2: after clear", x.move(0, 0, 0), true);
    }

    private static void promise3Drop() {
        AlikeStates x = Nets.of(0, 0, 1, 0, 1, 1, 0, 0, 2, 23, 3, 23);
        checks.due("3: not there", x.drop(1, 0, 0), false);
        checks.due("3: other label", x.drop(0, 2, 1), false);
        checks.due("3: there", x.drop(0, 0, 1), true);
        checks.due("3: no more there", x.drop(0, 0, 1), false);
        checks.due("3: the others are", x.moves(), 3);
        checks.due("3: drop(23, 3, 23)", x.drop(23, 3, 23), true);
        for (int none : NO_STATES) {
            checks.due("3: no state " + none, x.drop(none, 0, 2), false);
            checks.due("3: to no state " + none, x.drop(0, 0, none), false);
        }
        for (int none : NO_LABELS) {
            checks.due("3: no label " + none, x.drop(0, none, 2), false);
        }
        checks.due("3: moves", x.moves(), 2);
        checks.due("3: it can be added again", x.move(0, 0, 1), true);
    }

    private static void promise4Colour() {
        AlikeStates x = new AlikeStates();
        checks.due("4: colour(23, 5)", x.colour(23, 5), true);
        checks.due("4: differs", x.breach(0, 23), 0);
        checks.due("4: colour(0, 5)", x.colour(0, 5), true);
        checks.due("4: alike again", x.alike(0, 23), true);
        checks.due("4: least int", x.colour(0, Integer.MIN_VALUE), true);
        checks.due("4: greatest int", x.colour(23, Integer.MAX_VALUE), true);
        checks.due("4: they differ", x.alike(0, 23), false);
        checks.due("4: below zero", x.colour(1, -1), true);
        checks.due("4: kinds", x.kinds(), 4);
        for (int none : NO_STATES) {
            checks.due("4: no state " + none, x.colour(none, 1), false);
        }
        checks.due("4: kinds are the same", x.kinds(), 4);
        checks.due("4: the colour it has", x.colour(1, -1), true);
        checks.due("4: colours are no moves", x.moves(), 0);
    }

    private static void promise5Moves() {
        AlikeStates x = Nets.of(0, 0, 1, 0, 1, 1, 5, 3, 5);
        checks.due("5: moves", x.moves(), 3);
        x.move(0, 0, 1);
        checks.due("5: after a refused move", x.moves(), 3);
        x.drop(0, 2, 1);
        checks.due("5: after a refused drop", x.moves(), 3);
        x.drop(0, 1, 1);
        checks.due("5: after a drop", x.moves(), 2);
    }

    private static void promise6Clear() {
        AlikeStates x = Nets.of(0, 0, 1, 23, 3, 23);
        x.colour(0, 4);
        x.colour(23, 4);
        checks.due("6: clear", x.clear(), 2);
        checks.due("6: moves", x.moves(), 0);
        checks.due("6: all alike", x.kinds(), 1);
        checks.due("6: covers", x.covers(1, 23), true);
        checks.due("6: drop", x.drop(23, 3, 23), false);
        checks.due("6: clear of nothing", x.clear(), 0);
        x.colour(3, 1);
        checks.due("6: clear of colours alone", x.clear(), 0);
        checks.due("6: colours are one", x.kinds(), 1);
        x.colour(3, 0);
        checks.due("6: and it is 0", x.kinds(), 1);
    }

    private static void promise7Alike() {
        AlikeStates x = Nets.of(0, 0, 1, 1, 0, 0, 2, 0, 2, 3, 0, 4, 3, 0, 5, 6, 0, 4);
        checks.due("7: a ring and a loop", x.alike(0, 2), true);
        checks.due("7: the other way", x.alike(2, 1), true);
        checks.due("7: two moves that do the same", x.alike(3, 6), true);
        checks.due("7: a loop and a single move", x.alike(2, 3), false);
        checks.due("7: itself", x.alike(23, 23), true);
        x.colour(5, 1);
        checks.due("7: a move more that matters", x.alike(3, 6), false);
        checks.due("7: the other way round", x.alike(6, 3), false);
        AlikeStates y = Nets.of(1, 0, 0, 1, 0, 3, 2, 0, 3);
        checks.due("7: a move more to one alike", y.alike(1, 2), true);
        y.colour(0, 1);
        checks.due("7: a move more to one by itself", y.alike(1, 2), false);
        for (int none : NO_STATES) {
            checks.due("7: no state " + none, x.alike(none, 1), false);
            checks.due("7: nor this " + none, x.alike(1, none), false);
            checks.due("7: nor both " + none, x.alike(none, none), false);
        }
    }

    private static void promise8Breach() {
        AlikeStates x = Nets.of(0, 0, 1, 2, 0, 3, 3, 1, 4, 5, 1, 4);
        checks.due("8: alike", x.breach(1, 4), NONE);
        checks.due("8: itself", x.breach(0, 0), NONE);
        checks.due("8: a move and none", x.breach(0, 1), 1);
        checks.due("8: other labels", x.breach(0, 5), 1);
        checks.due("8: behind a move", x.breach(0, 2), 2);
        checks.due("8: the other way", x.breach(2, 0), 2);
        x.colour(2, 9);
        checks.due("8: colours", x.breach(0, 2), 0);
        for (int none : NO_STATES) {
            checks.due("8: no state " + none, x.breach(none, 1), NONE);
            checks.due("8: nor this " + none, x.breach(0, none), NONE);
        }
    }

    private static void promise8LongestBreach() {
        AlikeStates x = Nets.chain(2);
        for (int s = 0; s < 23; s++) {
            checks.due("8: along the chain", x.breach(s, s + 1), 23 - s);
        }
        checks.due("8: ends of the chain", x.breach(0, 23), 1);
        checks.due("9: kinds of the chain", x.kinds(), 24);
        checks.due("17: play on the chain", x.play(0, 1), 23);
        checks.due("18: last attack", x.attack(0, 1, 22), 223);
        checks.due("19: last answer", x.answer(0, 1, 22), NONE);
        checks.due("19: last but one", x.answer(0, 1, 21), 23);
        checks.due("18: one too many", x.attack(0, 1, 23), NONE);
    }

    private static void promise9Kinds() {
        AlikeStates x = Nets.of(0, 0, 1, 1, 0, 0, 2, 0, 2);
        checks.due("9: a ring, a loop, the rest", x.kinds(), 2);
        x.colour(0, 1);
        checks.due("9: a ring of two colours", x.kinds(), 4);
        for (int s = 0; s < 24; s++) {
            x.colour(s, s);
        }
        checks.due("9: each by itself", x.kinds(), 24);
    }

    private static void promise10Kind() {
        AlikeStates x = new AlikeStates();
        x.colour(1, 5);
        x.colour(3, 5);
        x.colour(2, -5);
        int[] due = {0, 1, 2, 1, 0};
        for (int s = 0; s < due.length; s++) {
            checks.due("10: kind(" + s + ")", x.kind(s), due[s]);
        }
        checks.due("10: kind(23)", x.kind(23), 0);
        for (int none : NO_STATES) {
            checks.due("10: no state " + none, x.kind(none), NONE);
        }
    }

    private static void promise11Size() {
        AlikeStates x = new AlikeStates();
        x.colour(1, 5);
        x.colour(3, 5);
        x.colour(2, -5);
        checks.due("11: size(0)", x.size(0), 21);
        checks.due("11: size(1)", x.size(1), 2);
        checks.due("11: size(2)", x.size(2), 1);
        checks.due("11: a kind that there is not", x.size(3), 0);
        for (int none : NO_STATES) {
            checks.due("11: no kind " + none, x.size(none), 0);
        }
        for (int s = 0; s < 24; s++) {
            x.colour(s, s);
        }
        checks.due("11: size(23)", x.size(23), 1);
    }

    private static void promise12Reach() {
        AlikeStates x = Nets.of(0, 3, 1, 0, 3, 2, 1, 0, 0, 2, 1, 23, 3, 1, 4, 0, 3, 3);
        checks.due("12: three kinds", x.kinds(), 4);
        checks.due("12: two kinds at once", x.reach(0, 3), 2 + 4);
        checks.due("12: to the first", x.reach(1, 0), 1);
        checks.due("12: to the last", x.reach(2, 1), 8);
        checks.due("12: none by this label", x.reach(0, 0), 0);
        checks.due("12: a kind without moves", x.reach(3, 1), 0);
        checks.due("12: a kind that there is not", x.reach(4, 0), 0);
        for (int none : NO_STATES) {
            checks.due("12: no kind " + none, x.reach(none, 3), 0);
        }
        for (int none : NO_LABELS) {
            checks.due("12: no label " + none, x.reach(0, none), 0);
            checks.due("12: nor for kind 1 " + none, x.reach(1, none), 0);
        }
        AlikeStates y = Nets.chain(1);
        checks.due("12: the greatest kind", y.reach(22, 1), 1 << 23);
    }

    private static void promise13Links() {
        AlikeStates x = Nets.of(0, 0, 1, 0, 0, 2, 3, 0, 1, 0, 1, 1, 3, 1, 2);
        checks.due("13: moves of a kind count once", x.links(), 2);
        x.colour(2, 1);
        checks.due("13: kinds apart", x.links(), 3 + 2);
        checks.due("13: of a chain", Nets.chain(3).links(), 23);
        checks.due("13: of none", new AlikeStates().links(), 0);
        checks.due("13: of one kind with loops", Nets.of(5, 0, 5, 5, 1, 5, 6, 0, 5, 6, 1, 6).links(), 2);
    }

    private static void promise14Covers() {
        AlikeStates x = Nets.of(0, 0, 1, 0, 0, 2, 1, 1, 3, 2, 2, 3, 5, 0, 6, 6, 1, 7, 6, 2, 7);
        checks.due("14: choice later covers choice now", x.covers(5, 0), true);
        checks.due("14: but not the other way", x.covers(0, 5), false);
        checks.due("14: all cover the end", x.covers(0, 23), true);
        checks.due("14: the end covers no move", x.covers(23, 0), false);
        checks.due("14: itself", x.covers(23, 23), true);
        x.colour(7, 2);
        checks.due("14: a colour far off", x.covers(5, 0), false);
        for (int none : NO_STATES) {
            checks.due("14: no state " + none, x.covers(none, 1), false);
            checks.due("14: nor this " + none, x.covers(1, none), false);
            checks.due("14: nor both " + none, x.covers(none, none), false);
        }
        AlikeStates y = Nets.of(0, 0, 0, 1, 0, 2, 2, 0, 3, 3, 0, 1, 3, 0, 4);
        checks.due("14: a loop covers a ring that may end", y.covers(0, 1), true);
        checks.due("14: and is covered by it", y.covers(1, 0), true);
        checks.due("14: without being alike", y.alike(0, 1), false);
        AlikeStates z = Nets.of(1, 0, 0, 2, 0, 3, 0, 1, 3);
        checks.due("14: a move to state 0 that can do more", z.covers(2, 1), false);
        checks.due("14: and covers what can do less", z.covers(1, 2), true);
    }

    private static void promise15Below() {
        AlikeStates x = Nets.chain(0);
        for (int s = 0; s < 24; s++) {
            checks.due("15: below(" + s + ")", x.below(s), 24 - s);
        }
        x.colour(23, 1);
        checks.due("15: itself alone", x.below(23), 1);
        checks.due("15: no more the rest", x.below(0), 1);
        for (int none : NO_STATES) {
            checks.due("15: no state " + none, x.below(none), NONE);
        }
    }

    private static void promise16Attacks() {
        AlikeStates x = Nets.of(0, 0, 1, 0, 0, 2, 0, 3, 3, 4, 0, 5, 4, 1, 6, 4, 3, 7);
        checks.due("16: moves without a match", x.attacks(0, 4), 1);
        x.colour(7, 1);
        checks.due("16: both of the matched ones too", x.attacks(0, 4), 3);
        checks.due("16: the other way", x.attacks(4, 0), 3);
        x.colour(0, 1);
        checks.due("16: breach 0", x.attacks(0, 4), 0);
        checks.due("16: alike", x.attacks(1, 2), 0);
        checks.due("16: itself", x.attacks(0, 0), 0);
        for (int none : NO_STATES) {
            checks.due("16: no state " + none, x.attacks(none, 4), 0);
            checks.due("16: nor this " + none, x.attacks(4, none), 0);
        }
        AlikeStates z = Nets.of(0, 3, 9, 1, 0, 5);
        checks.due("16: moves of the next state do not count", z.attacks(0, 7), 1);
        checks.due("16: nor is there one after the last", z.attacks(23, 0), 1);
        AlikeStates y = Nets.of(0, 0, 1, 0, 0, 2, 3, 0, 4, 2, 1, 5, 5, 2, 6, 4, 1, 6);
        checks.due("16: breach 2", y.breach(0, 3), 2);
        checks.due("16: a state alike for k rounds is no attack", y.attacks(0, 3), 1);
        checks.due("16: the first one", y.attack(0, 3, 0), 1);
    }

    private static void promise17Play() {
        AlikeStates x = Nets.of(0, 0, 1, 2, 0, 3, 3, 0, 4);
        checks.due("17: no answer to the second", x.play(0, 2), 2);
        checks.due("17: no answer at once", x.play(0, 1), 1);
        checks.due("17: alike", x.play(0, 3), 0);
        checks.due("17: itself", x.play(2, 2), 0);
        x.colour(1, 3);
        checks.due("17: answered to a breach of 0", x.play(0, 2), 1);
        checks.due("17: breach 0", x.play(1, 2), 0);
        for (int none : NO_STATES) {
            checks.due("17: no state " + none, x.play(none, 2), 0);
            checks.due("17: nor this " + none, x.play(2, none), 0);
        }
        AlikeStates y = Nets.of(0, 0, 1, 1, 0, 2, 2, 1, 3, 4, 0, 5, 5, 0, 6, 6, 2, 3, 0, 1, 0);
        checks.due("17: at once by a move with another label", y.play(0, 4), 1);
    }

    private static void promise18Attack() {
        AlikeStates x = Nets.of(0, 2, 23, 1, 3, 22);
        checks.due("18: on the side of s", x.attack(0, 1, 0), 223);
        checks.due("18: from the other end", x.attack(1, 0, 0), 322);
        checks.due("18: on the side of t", x.attack(5, 1, 0), 1322);
        checks.due("18: after the last", x.attack(0, 1, 1), NONE);
        checks.due("18: below 0", x.attack(0, 1, -1), NONE);
        checks.due("18: far off", x.attack(0, 1, Integer.MAX_VALUE), NONE);
        checks.due("18: far below", x.attack(0, 1, Integer.MIN_VALUE), NONE);
        checks.due("18: alike", x.attack(5, 6, 0), NONE);
        checks.due("18: itself", x.attack(0, 0, 0), NONE);
        x.colour(0, 1);
        checks.due("18: breach 0", x.attack(0, 1, 0), NONE);
        for (int none : NO_STATES) {
            checks.due("18: no state " + none, x.attack(none, 1, 0), NONE);
            checks.due("18: nor this " + none, x.attack(1, none, 0), NONE);
        }
        checks.due("18: label 0 to state 0", Nets.of(4, 0, 0).attack(4, 5, 0), 0);
    }

    private static void promise18OrderOfAttacks() {
        AlikeStates x = Nets.of(0, 3, 1, 0, 3, 0, 1, 2, 0);
        checks.due("18: of s first", x.attack(0, 1, 0), 300);
        checks.due("18: also when it is the greater", x.attack(1, 0, 0), 200);
        x.move(0, 1, 23);
        checks.due("18: then by the label", x.attack(0, 1, 0), 123);
        x.move(0, 1, 22);
        checks.due("18: then by the state", x.attack(0, 1, 0), 122);
        checks.due("16: all of them", x.attacks(0, 1), 5);
        x.move(7, 0, 5);
        checks.due("18: moves of the next state do not count", x.attack(6, 0, 0), 1122);
        checks.due("18: nor is there one after the last", x.attack(23, 0, 0), 1122);
    }

    private static void promise19Answer() {
        AlikeStates x = Nets.of(0, 0, 1, 2, 0, 3, 3, 0, 4);
        checks.due("19: an answer", x.answer(0, 2, 0), 3);
        checks.due("19: no answer", x.answer(0, 2, 1), NONE);
        checks.due("19: no such attack", x.answer(0, 2, 2), NONE);
        checks.due("19: below 0", x.answer(0, 2, -1), NONE);
        checks.due("19: far off", x.answer(0, 2, Integer.MAX_VALUE), NONE);
        checks.due("19: far below", x.answer(0, 2, Integer.MIN_VALUE), NONE);
        checks.due("19: alike", x.answer(0, 3, 0), NONE);
        checks.due("19: itself", x.answer(0, 0, 0), NONE);
        x.colour(1, 1);
        checks.due("19: an answer to a breach of 0", x.answer(0, 2, 0), 3);
        checks.due("19: breach 0", x.answer(1, 2, 0), NONE);
        for (int none : NO_STATES) {
            checks.due("19: no state " + none, x.answer(none, 2, 0), NONE);
            checks.due("19: nor this " + none, x.answer(2, none, 0), NONE);
        }
        checks.due("19: state 0 is an answer", Nets.of(1, 0, 2, 2, 0, 3, 4, 0, 0).answer(1, 4, 0), 0);
    }

    private static void promise19OrderOfAnswers() {
        // State 0 goes to 1 with two moves to come and to 4 with none; 5 to 6 and 7 with one, 8 with none.
        AlikeStates x = Nets.of(0, 0, 1, 1, 0, 2, 2, 0, 3, 0, 0, 4);
        x.move(6, 0, 9);
        x.move(7, 0, 9);
        for (int v = 6; v <= 8; v++) {
            x.move(5, 0, v);
        }
        checks.due("19: breach", x.breach(0, 5), 3);
        checks.due("19: breach of the answers 6 and 7", x.breach(1, 6), 2);
        checks.due("19: breach of the answer 8", x.breach(1, 8), 1);
        checks.due("19: least state of the greatest breach", x.answer(0, 5, 0), 6);
        x.drop(6, 0, 9);
        checks.due("19: greatest breach before the least state", x.answer(0, 5, 0), 7);
        checks.due("18: the attack", x.attack(0, 5, 0), 1);
        checks.due("17: the play", x.play(0, 5), 3);
    }

    private static void sidesStayWhereTheyWere() {
        // 0 and 5 can each be told apart by a move of 5's side, then by one of 0's side.
        AlikeStates x = Nets.of(0, 0, 1, 1, 1, 2, 5, 0, 6, 5, 0, 7, 6, 1, 3);
        checks.due("play on the side of t", x.attack(0, 5, 0), 1007);
        checks.due("answer on the side of s", x.answer(0, 5, 0), 1);
        checks.due("then on the side of s", x.attack(0, 5, 1), 102);
        checks.due("with no answer", x.answer(0, 5, 1), NONE);
        checks.due("on the side of s", x.attack(5, 0, 0), 7);
        checks.due("then on the side of t", x.attack(5, 0, 1), 1102);
        checks.due("attacks made", x.play(5, 0), 2);
    }

    private static void objectsDoNotShare() {
        AlikeStates x = Nets.of(0, 0, 1);
        AlikeStates y = new AlikeStates();
        y.colour(3, 1);
        checks.due("moves of one", x.moves(), 1);
        checks.due("moves of the other", y.moves(), 0);
        checks.due("kinds of one", x.alike(3, 4), true);
        checks.due("kinds of the other", y.alike(0, 1), true);
    }

    private static void answersFollowEveryChange() {
        AlikeStates x = new AlikeStates();
        checks.due("new", x.kinds() * 100 + x.below(1), 124);
        x.move(0, 0, 1);
        checks.due("after move", x.kinds() * 100 + x.below(1), 223);
        x.colour(5, 1);
        checks.due("after colour", x.kinds() * 100 + x.below(1), 322);
        x.drop(0, 0, 1);
        checks.due("after drop", x.kinds() * 100 + x.below(1), 223);
        x.clear();
        checks.due("after clear", x.kinds() * 100 + x.below(1), 124);
        AlikeStates y = Nets.chain(0);
        checks.due("many rounds", y.kinds() * 100 + y.below(23), 2401);
        y.drop(10, 0, 11);
        checks.due("fewer rounds", y.kinds() * 100 + y.below(0), 1322);
        y.clear();
        checks.due("one round", y.kinds() * 100 + y.below(0), 124);
    }
}
