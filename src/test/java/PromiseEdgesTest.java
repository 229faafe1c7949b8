import java.util.function.Supplier;

/** The sentences of the promises that name a boundary, each by itself and on both sides of it. */
public final class PromiseEdgesTest {
    private static final int NONE = AlikeStates.NONE;
    private static final int ALL_KINDS = (1 << 24) - 1;

    private static final Checks checks = new Checks();

    public static void main(String[] args) {
        promise1NoMovesAllColours0();
        promise2NoSuchStateOrLabel();
        promise2ThereAlready();
        promise2ThereAre120();
        promise3NotThere();
        promise4NoSuchState();
        promise5FromNoneTo120();
        promise6NoMovesAllColours0();
        promise6HowManyThereWere();
        promise7OneOfThemIsNone();
        promise8AlikeOrNone();
        promise9From1To24();
        promise10NoSuchState();
        promise11NoneSuch();
        promise12NoSuchKindOrLabel();
        promise12SumOfAllKinds();
        promise13From0To120();
        promise14OneOfThemIsNone();
        promise15ItselfTooOrNone();
        promise16BreachNotAbove0();
        promise16From1To96();
        promise17AlikeOrNone();
        promise17From0To23();
        promise18NoneWhenThereIsNone();
        promise18LeastAndGreatest();
        promise19NoSuchAttackOrNoAnswer();
        promise19LeastAndGreatest();
        playsDoNotMeet();
        checks.end();
    }

    private static void samePicture(String what, Supplier<AlikeStates> made, Supplier<AlikeStates> due) {
        String difference = new Picture(made).differenceTo(new Picture(due));
        checks.isTrue(what + ": " + difference, difference.isEmpty());
    }

    /** What holds for an object just made, and for one just cleared. */
    private static void checkEmpty(String what, AlikeStates x) {
        checks.due(what + ": moves", x.moves(), 0);
        checks.due(what + ": kinds", x.kinds(), 1);
        checks.due(what + ": links", x.links(), 0);
        checks.due(what + ": size(0)", x.size(0), 24);
        checks.due(what + ": size(1)", x.size(1), 0);
        for (int s = 0; s < 24; s++) {
            checks.due(what + ": kind", x.kind(s), 0);
            checks.due(what + ": below", x.below(s), 24);
            checks.due(what + ": alike", x.alike(s, 23 - s), true);
            checks.due(what + ": covers", x.covers(s, 23 - s), true);
            checks.due(what + ": breach", x.breach(s, 23 - s), NONE);
            checks.due(what + ": attacks", x.attacks(s, 23 - s), 0);
            checks.due(what + ": play", x.play(s, 23 - s), 0);
            checks.due(what + ": attack", x.attack(s, 23 - s, 0), NONE);
            checks.due(what + ": answer", x.answer(s, 23 - s, 0), NONE);
            checks.due(what + ": reach", x.reach(s, s % 4), 0);
            checks.due(what + ": drop", x.drop(s, s % 4, s), false);
        }
        checks.due(what + ": clear", x.clear(), 0);
    }

    /** "No moves, all colours 0." */
    private static void promise1NoMovesAllColours0() {
        checkEmpty("1: just made", new AlikeStates());
        samePicture("1: colours 0 change nothing", () -> Nets.coloured(1), AlikeStates::new);
    }

    /** "false when there is no such state or label": in each of the three places. */
    private static void promise2NoSuchStateOrLabel() {
        AlikeStates x = new AlikeStates();
        for (int none : Nets.NO_STATES) {
            checks.due("2: from no state " + none, x.move(none, 0, 0), false);
            checks.due("2: from no state to the last " + none, x.move(none, 3, 23), false);
            checks.due("2: to no state " + none, x.move(0, 0, none), false);
            checks.due("2: to no state from the last " + none, x.move(23, 3, none), false);
        }
        for (int none : Nets.NO_LABELS) {
            checks.due("2: with no label " + none, x.move(0, none, 0), false);
            checks.due("2: with no label from the last " + none, x.move(23, none, 23), false);
        }
        checks.due("2: no moves", x.moves(), 0);
        checks.due("2: the first of all", x.move(0, 0, 0), true);
        checks.due("2: the last of all", x.move(23, 3, 23), true);
        checks.due("2: two moves", x.moves(), 2);
    }

    /** "it is there already". */
    private static void promise2ThereAlready() {
        AlikeStates x = new AlikeStates();
        for (int t = 0; t < 24; t++) {
            checks.due("2: first " + t, x.move(t, t % 4, 23 - t), true);
            checks.due("2: already " + t, x.move(t, t % 4, 23 - t), false);
            checks.due("2: dropped " + t, x.drop(t, t % 4, 23 - t), true);
            checks.due("2: no more there " + t, x.move(t, t % 4, 23 - t), true);
        }
        checks.due("2: there are", x.moves(), 24);
        x.clear();
        checks.due("2: nor after clear", x.move(0, 0, 23), true);
    }

    /** "or there are 120". */
    private static void promise2ThereAre120() {
        AlikeStates x = Nets.filled(118);
        checks.due("2: the 119th", x.move(23, 0, 0), true);
        checks.due("2: the 120th", x.move(23, 1, 0), true);
        checks.due("2: the 121st", x.move(23, 2, 0), false);
        checks.due("2: nor once more", x.move(23, 2, 0), false);
        checks.due("2: nor one that is there", x.move(23, 1, 0), false);
        checks.due("2: one less", x.drop(0, 0, 0), true);
        checks.due("2: one more", x.move(23, 2, 0), true);
        checks.due("2: none more", x.move(0, 0, 0), false);
        checks.due("2: two less", x.drop(0, 0, 1) && x.drop(0, 0, 2), true);
        checks.due("2: two more", x.move(0, 0, 0) && x.move(0, 0, 1), true);
        checks.due("2: none more again", x.move(0, 0, 2), false);
        checks.due("2: 120", x.moves(), 120);
    }

    /** "false when it is not there": never was, no more, next to one that is, or cannot be. */
    private static void promise3NotThere() {
        AlikeStates x = new AlikeStates();
        checks.due("3: never was", x.drop(12, 1, 12), false);
        checks.due("3: none less than no moves", x.moves(), 0);
        Nets.add(x, 12, 1, 12);
        int[][] near = {{11, 1, 12}, {13, 1, 12}, {12, 0, 12}, {12, 2, 12}, {12, 1, 11}, {12, 1, 13}};
        for (int[] m : near) {
            checks.due("3: next to one that is", x.drop(m[0], m[1], m[2]), false);
        }
        checks.due("3: it is there", x.drop(12, 1, 12), true);
        checks.due("3: no more", x.drop(12, 1, 12), false);
        Nets.add(x, 0, 0, 0);
        Nets.add(x, 23, 3, 23);
        for (int none : Nets.NO_STATES) {
            checks.due("3: from no state " + none, x.drop(none, 0, 0) | x.drop(none, 3, 23), false);
            checks.due("3: to no state " + none, x.drop(0, 0, none) | x.drop(23, 3, none), false);
        }
        for (int none : Nets.NO_LABELS) {
            checks.due("3: with no label " + none, x.drop(0, none, 0) | x.drop(23, none, 23), false);
        }
        checks.due("3: both are there", x.moves(), 2);
        x.clear();
        checks.due("3: cleared", x.drop(0, 0, 0), false);
    }

    /** "false when there is no such state": whatever the colour is. */
    private static void promise4NoSuchState() {
        AlikeStates x = new AlikeStates();
        for (int none : Nets.NO_STATES) {
            for (int c : new int[] {0, 1, -1, Nets.LEAST, Nets.GREATEST}) {
                checks.due("4: colour(" + none + ", " + c + ")", x.colour(none, c), false);
            }
        }
        checks.due("4: all have one colour", x.kinds(), 1);
        checks.due("4: state 0", x.colour(0, Nets.LEAST), true);
        checks.due("4: state 23", x.colour(23, Nets.GREATEST), true);
        checks.due("4: three colours", x.kinds(), 3);
        checks.due("4: again the same colour", x.colour(0, Nets.LEAST), true);
        checks.due("4: again the one at first", x.colour(0, 0), true);
        checks.due("4: two colours", x.kinds(), 2);
    }

    /** "How many moves there are": up to 120 and down again. */
    private static void promise5FromNoneTo120() {
        AlikeStates x = new AlikeStates();
        checks.due("5: just made", x.moves(), 0);
        for (int i = 0; i < 120; i++) {
            Nets.add(x, i / 24, i % 4, i % 24);
            checks.due("5: up", x.moves(), i + 1);
        }
        x.move(23, 0, 0);
        checks.due("5: not 121", x.moves(), 120);
        for (int i = 0; i < 120; i++) {
            x.drop(i / 24, i % 4, i % 24);
            checks.due("5: down", x.moves(), 119 - i);
        }
        x.drop(0, 0, 0);
        checks.due("5: not -1", x.moves(), 0);
    }

    /** "There are no moves, and all colours are 0." */
    private static void promise6NoMovesAllColours0() {
        Supplier<AlikeStates> colourful = () -> {
            AlikeStates x = Nets.coloured(24);
            x.colour(0, Nets.LEAST);
            x.colour(23, Nets.GREATEST);
            Nets.add(x, 0, 0, 0);
            Nets.add(x, 23, 3, 23);
            return x;
        };
        checkEmpty("6: colours", cleared(colourful));
        checkEmpty("6: 120 moves", cleared(Nets::full));
        checkEmpty("6: just made", cleared(AlikeStates::new));
        checkEmpty("6: the greatest breach", cleared(() -> Nets.chain(0)));
        samePicture("6: colours", () -> cleared(colourful), AlikeStates::new);
        samePicture("6: 120 moves", () -> cleared(Nets::full), AlikeStates::new);
    }

    /** The net is asked before it is cleared, so that answers which were kept would show. */
    private static AlikeStates cleared(Supplier<AlikeStates> made) {
        AlikeStates x = made.get();
        x.kinds();
        x.below(0);
        x.play(0, 1);
        x.clear();
        return x;
    }

    /** "Answers how many moves there were." */
    private static void promise6HowManyThereWere() {
        checks.due("6: of none", new AlikeStates().clear(), 0);
        checks.due("6: of colours alone", Nets.coloured(24).clear(), 0);
        checks.due("6: of one", Nets.of(23, 3, 23).clear(), 1);
        checks.due("6: of 119", Nets.filled(119).clear(), 119);
        AlikeStates x = Nets.full();
        x.move(23, 3, 23);
        checks.due("6: of 120 and a refused one", x.clear(), 120);
        checks.due("6: of none again", x.clear(), 0);
    }

    /** "false when one of them is none": the first, the second, or both, though they are the same int. */
    private static void promise7OneOfThemIsNone() {
        AlikeStates x = new AlikeStates();
        for (int none : Nets.NO_STATES) {
            checks.due("7: first " + none, x.alike(none, 0) | x.alike(none, 23), false);
            checks.due("7: second " + none, x.alike(0, none) | x.alike(23, none), false);
            checks.due("7: both " + none, x.alike(none, none), false);
        }
        for (int s = 0; s < 24; s++) {
            checks.due("7: itself " + s, x.alike(s, s), true);
            checks.due("7: all are alike " + s, x.alike(s, (s + 1) % 24), true);
        }
        AlikeStates y = Nets.chain(0);
        for (int s = 0; s < 24; s++) {
            checks.due("7: itself in a chain " + s, y.alike(s, s), true);
            checks.due("7: none is alike " + s, y.alike(s, (s + 1) % 24), false);
        }
    }

    /** "NONE when they are alike, or one of them is none": which is not 0. */
    private static void promise8AlikeOrNone() {
        AlikeStates x = Nets.chain(1);
        x.colour(0, 1);
        for (int none : Nets.NO_STATES) {
            checks.due("8: first " + none, x.breach(none, 0), NONE);
            checks.due("8: second " + none, x.breach(23, none), NONE);
            checks.due("8: both " + none, x.breach(none, none), NONE);
        }
        checks.due("8: itself", x.breach(0, 0), NONE);
        checks.due("8: colours", x.breach(0, 23), 0);
        checks.due("8: moves", x.breach(22, 23), 1);
        x.drop(22, 1, 23);
        checks.due("8: no moves", x.breach(22, 23), NONE);
    }

    /** "How many kinds there are": every number from 1 to 24. */
    private static void promise9From1To24() {
        for (int kinds = 1; kinds <= 24; kinds++) {
            checks.due("9: by colours", Nets.coloured(kinds).kinds(), kinds);
        }
        AlikeStates x = new AlikeStates();
        for (int s = 23; s > 0; s--) {
            Nets.add(x, s - 1, 0, s);
            checks.due("9: by a chain", x.kinds(), 25 - s);
        }
        x.move(23, 0, 23);
        checks.due("9: all alike", x.kinds(), 1);
    }

    /** "NONE when there is no such state": which is not kind 0. */
    private static void promise10NoSuchState() {
        AlikeStates x = new AlikeStates();
        AlikeStates y = Nets.coloured(24);
        for (int none : Nets.NO_STATES) {
            checks.due("10: of one kind " + none, x.kind(none), NONE);
            checks.due("10: of 24 kinds " + none, y.kind(none), NONE);
        }
        for (int s = 0; s < 24; s++) {
            checks.due("10: of one kind " + s, x.kind(s), 0);
            checks.due("10: of 24 kinds " + s, y.kind(s), s);
        }
    }

    /** "0 when there is none such": the first number that is no kind, and all beyond. */
    private static void promise11NoneSuch() {
        for (int kinds = 1; kinds <= 24; kinds++) {
            AlikeStates x = Nets.coloured(kinds);
            checks.due("11: the last of " + kinds, x.size(kinds - 1), 25 - kinds);
            checks.due("11: one after " + kinds, x.size(kinds), 0);
            checks.due("11: first of " + kinds, x.size(0), kinds == 1 ? 24 : 1);
            checks.due("11: before the first of " + kinds, x.size(-1), 0);
            for (int none : Nets.NO_STATES) {
                checks.due("11: none of " + kinds + ": " + none, x.size(none), 0);
            }
        }
        AlikeStates y = Nets.coloured(24);
        checks.due("11: of 24", y.size(23), 1);
        y.clear();
        checks.due("11: no more", y.size(23), 0);
        checks.due("11: all in one", y.size(0), 24);
    }

    /** "0 when there is no such kind or label." */
    private static void promise12NoSuchKindOrLabel() {
        AlikeStates x = Nets.ring(3);
        checks.due("12: one kind", x.reach(0, 3), 1);
        checks.due("12: one after it", x.reach(1, 3), 0);
        checks.due("12: no move with it", x.reach(0, 2), 0);
        x.colour(23, 1);
        checks.due("12: 24 kinds", x.reach(22, 3), 1 << 23);
        checks.due("12: the last of them", x.reach(23, 3), 1);
        for (int none : Nets.NO_STATES) {
            checks.due("12: no kind " + none, x.reach(none, 3), 0);
        }
        for (int none : Nets.NO_LABELS) {
            checks.due("12: no label " + none, x.reach(0, none) | x.reach(23, none), 0);
        }
        x.clear();
        checks.due("12: a kind without moves", x.reach(0, 3), 0);
        checks.due("12: a kind that was", x.reach(22, 3), 0);
    }

    /** "as the sum of 2^kind": of none, of the first, of the last, and of all 24. */
    private static void promise12SumOfAllKinds() {
        AlikeStates x = Nets.coloured(24);
        int sum = 0;
        for (int t = 23; t >= 0; t--) {
            checks.due("12: before " + t, x.reach(23, 0), sum);
            Nets.add(x, 23, 0, t);
            sum += 1 << t;
        }
        checks.due("12: to all", x.reach(23, 0), ALL_KINDS);
        checks.due("12: by another label", x.reach(23, 1), 0);
        checks.due("12: from another kind", x.reach(22, 0), 0);
        for (int s = 0; s < 23; s++) {
            x.colour(s, 0);
        }
        checks.due("12: to both of two", x.reach(1, 0), 3);
        x.colour(23, 0);
        x.drop(23, 0, 23);
        checks.due("12: to the other one of two", x.reach(1, 0), 1);
    }

    /** "How many moves the net of kinds has": none, one for all, and as many as there are moves. */
    private static void promise13From0To120() {
        checks.due("13: of no moves", Nets.coloured(24).links(), 0);
        checks.due("13: of one move", Nets.of(23, 3, 23).links(), 1);
        checks.due("13: of a ring", Nets.ring(2).links(), 1);
        AlikeStates x = new AlikeStates();
        for (int i = 0; i < 96; i++) {
            Nets.add(x, i / 4, i % 4, i / 4);
        }
        checks.due("13: of one kind with all labels", x.links(), 4);
        for (int i = 0; i < 24; i++) {
            x.colour(i, i);
            Nets.add(x, i, 0, (i + 1) % 24);
        }
        checks.due("13: moves", x.moves(), 120);
        checks.due("13: of 24 kinds", x.links(), 120);
        x.drop(0, 0, 1);
        checks.due("13: one less", x.links(), 119);
    }

    /** "false when one of them is none": though none of the moves of none lacks an answer. */
    private static void promise14OneOfThemIsNone() {
        AlikeStates x = new AlikeStates();
        for (int none : Nets.NO_STATES) {
            checks.due("14: first " + none, x.covers(none, 0) | x.covers(none, 23), false);
            checks.due("14: second " + none, x.covers(0, none) | x.covers(23, none), false);
            checks.due("14: both " + none, x.covers(none, none), false);
        }
        checks.due("14: first and last", x.covers(0, 23) & x.covers(23, 0), true);
        Nets.add(x, 0, 3, 23);
        checks.due("14: a move more", x.covers(0, 23), true);
        checks.due("14: a move less", x.covers(23, 0), false);
        Nets.add(x, 23, 3, 23);
        checks.due("14: for ever", x.covers(23, 0), true);
        checks.due("14: for ever, the other way", x.covers(0, 23), true);
        x.drop(23, 3, 23);
        Nets.add(x, 23, 2, 23);
        checks.due("14: another label", x.covers(23, 0), false);
        x.colour(23, 1);
        checks.due("14: another colour", x.covers(0, 23), false);
        checks.due("14: itself", x.covers(23, 23), true);
    }

    /** "itself too; NONE when there is no such state": from 1 to 24, and never 0. */
    private static void promise15ItselfTooOrNone() {
        AlikeStates x = new AlikeStates();
        AlikeStates y = Nets.coloured(24);
        AlikeStates z = Nets.chain(3);
        for (int none : Nets.NO_STATES) {
            checks.due("15: of one kind " + none, x.below(none), NONE);
            checks.due("15: of 24 kinds " + none, y.below(none), NONE);
        }
        for (int s = 0; s < 24; s++) {
            checks.due("15: all " + s, x.below(s), 24);
            checks.due("15: itself " + s, y.below(s), 1);
            checks.due("15: itself and those behind " + s, z.below(s), 24 - s);
        }
    }

    /** "0 when their breach is not above 0, or one of them is none". */
    private static void promise16BreachNotAbove0() {
        AlikeStates x = Nets.of(0, 0, 5, 23, 3, 5);
        checks.due("16: breach 1", x.attacks(0, 23), 2);
        checks.due("16: the other way", x.attacks(23, 0), 2);
        for (int none : Nets.NO_STATES) {
            checks.due("16: first " + none, x.attacks(none, 0) + x.attacks(none, 23), 0);
            checks.due("16: second " + none, x.attacks(0, none) + x.attacks(23, none), 0);
            checks.due("16: both " + none, x.attacks(none, none), 0);
        }
        checks.due("16: itself", x.attacks(0, 0), 0);
        x.colour(0, 1);
        checks.due("16: breach 0", x.attacks(0, 23), 0);
        checks.due("16: breach 0 the other way", x.attacks(23, 0), 0);
        x.colour(23, 1);
        checks.due("16: breach 1 again", x.attacks(0, 23), 2);
        x.drop(0, 0, 5);
        x.move(0, 3, 6);
        checks.due("16: alike", x.attacks(0, 23), 0);
    }

    /** One attack at the least; at the most each label with each state, from one side or from both. */
    private static void promise16From1To96() {
        AlikeStates x = new AlikeStates();
        for (int i = 0; i < 96; i++) {
            Nets.add(x, i % 24 < 12 ? 22 : 23, i / 24, i % 24);
            if (i == 0) {
                checks.due("16: one", x.attacks(22, 23), 1);
            }
        }
        for (int s = 0; s < 24; s++) {
            x.colour(s, s < 22 ? s : 22);
        }
        checks.due("16: all of both", x.attacks(22, 23), 96);
        checks.due("16: all of both, the other way", x.attacks(23, 22), 96);
        AlikeStates y = new AlikeStates();
        for (int i = 0; i < 96; i++) {
            Nets.add(y, 0, i / 24, i % 24);
        }
        checks.due("16: all of s", y.attacks(0, 1), 96);
        checks.due("16: all of t", y.attacks(1, 0), 96);
    }

    /** "0 when they are alike, or one of them is none". */
    private static void promise17AlikeOrNone() {
        AlikeStates x = Nets.ring(0);
        checks.due("17: itself", x.play(0, 0), 0);
        checks.due("17: alike for ever", x.play(0, 23), 0);
        x.drop(23, 0, 0);
        checks.due("17: no more alike", x.play(0, 23), 1);
        for (int none : Nets.NO_STATES) {
            checks.due("17: first " + none, x.play(none, 0) + x.play(none, 23), 0);
            checks.due("17: second " + none, x.play(0, none) + x.play(23, none), 0);
            checks.due("17: both " + none, x.play(none, none), 0);
        }
    }

    /** "How many attacks are made": every number up to 23. */
    private static void promise17From0To23() {
        AlikeStates x = Nets.chain(2);
        checks.due("17: none", x.play(23, 23), 0);
        for (int s = 0; s < 23; s++) {
            checks.due("17: in a chain from " + s, x.play(s, s + 1), 23 - s);
            checks.due("17: the other way", x.play(s + 1, s), 23 - s);
        }
        x.colour(23, 1);
        checks.due("17: the end has a colour", x.play(0, 1), 22);
        checks.due("17: breach 0", x.play(22, 23), 0);
    }

    /** "NONE when there is none": before the first, after the last, or no play at all. */
    private static void promise18NoneWhenThereIsNone() {
        AlikeStates x = Nets.chain(0);
        for (int s = 0; s < 23; s++) {
            int last = x.play(s, s + 1) - 1;
            checks.due("18: the first", x.attack(s, s + 1, 0), s + 1);
            checks.due("18: the last", x.attack(s, s + 1, last), 23);
            checks.due("18: after the last", x.attack(s, s + 1, last + 1), NONE);
            checks.due("18: before the first", x.attack(s, s + 1, -1), NONE);
        }
        for (int i : new int[] {-1, 23, 24, Nets.LEAST, Nets.GREATEST, 32, 1 << 30}) {
            checks.due("18: number " + i, x.attack(0, 1, i), NONE);
        }
        for (int none : Nets.NO_STATES) {
            checks.due("18: first " + none, x.attack(none, 1, 0), NONE);
            checks.due("18: second " + none, x.attack(0, none, 0), NONE);
            checks.due("18: both " + none, x.attack(none, none, 0), NONE);
        }
        checks.due("18: itself", x.attack(0, 0, 0), NONE);
        x.colour(0, 1);
        checks.due("18: breach 0", x.attack(0, 1, 0), NONE);
        checks.due("18: just made", new AlikeStates().attack(0, 1, 0), NONE);
    }

    /** "1000 if it is made on the side of t, 100 times the label, and the state": 0, 323, 1000, 1323. */
    private static void promise18LeastAndGreatest() {
        AlikeStates x = Nets.of(5, 0, 0);
        checks.due("18: least of s", x.attack(5, 6, 0), 0);
        checks.due("18: least of t", x.attack(6, 5, 0), 1000);
        AlikeStates y = Nets.of(5, 3, 23);
        checks.due("18: greatest of s", y.attack(5, 6, 0), 323);
        checks.due("18: greatest of t", y.attack(6, 5, 0), 1323);
    }

    /** "NONE when there is no such attack, or no answer to it": which is not state 0. */
    private static void promise19NoSuchAttackOrNoAnswer() {
        AlikeStates x = Nets.chain(0);
        for (int s = 0; s < 22; s++) {
            int last = x.play(s, s + 1) - 1;
            checks.due("19: to the first", x.answer(s, s + 1, 0), s + 2);
            checks.due("19: to the last but one", x.answer(s, s + 1, last - 1), 23);
            checks.due("19: none to the last", x.answer(s, s + 1, last), NONE);
            checks.due("19: after the last", x.answer(s, s + 1, last + 1), NONE);
            checks.due("19: before the first", x.answer(s, s + 1, -1), NONE);
        }
        for (int i : new int[] {-1, 23, 24, Nets.LEAST, Nets.GREATEST, 32, 1 << 30}) {
            checks.due("19: number " + i, x.answer(0, 1, i), NONE);
        }
        for (int none : Nets.NO_STATES) {
            checks.due("19: first " + none, x.answer(none, 1, 0), NONE);
            checks.due("19: second " + none, x.answer(0, none, 0), NONE);
            checks.due("19: both " + none, x.answer(none, none, 0), NONE);
        }
        checks.due("19: itself", x.answer(0, 0, 0), NONE);
        x.colour(0, 1);
        checks.due("19: breach 0", x.answer(0, 1, 0), NONE);
        checks.due("19: just made", new AlikeStates().answer(0, 1, 0), NONE);
    }

    /** "The state to which attack i of the play is answered": state 0, and state 23. */
    private static void promise19LeastAndGreatest() {
        AlikeStates x = Nets.of(5, 1, 6, 6, 1, 7, 8, 1, 0);
        checks.due("19: state 0", x.answer(5, 8, 0), 0);
        checks.due("19: the other way", x.answer(8, 5, 0), 6);
        AlikeStates y = Nets.of(5, 1, 6, 6, 1, 7, 8, 1, 23);
        checks.due("19: state 23", y.answer(5, 8, 0), 23);
        y.colour(23, 1);
        checks.due("19: state 23, and the play is over", y.answer(5, 8, 0), 23);
        checks.due("19: so there is no more", y.attack(5, 8, 1), NONE);
    }

    /** Questions about one play do not touch what is told of another one, long or short. */
    private static void playsDoNotMeet() {
        AlikeStates x = Nets.chain(1);
        checks.due("a long play", x.play(0, 1), 23);
        checks.due("a short one", x.play(22, 23), 1);
        checks.due("the long one", x.attack(0, 1, 22), 123);
        checks.due("the short one", x.attack(22, 23, 1), NONE);
        checks.due("the answer of the long one", x.answer(0, 1, 1), 3);
        checks.due("the answer of the short one", x.answer(22, 23, 0), NONE);
        checks.due("no play", x.play(7, 7), 0);
        checks.due("nor an attack", x.attack(7, 7, 0), NONE);
        checks.due("no such play", x.answer(24, 1, 0), NONE);
        checks.due("the long one again", x.answer(0, 1, 21), 23);
        x.clear();
        checks.due("no more of it", x.attack(0, 1, 0), NONE);
    }
}
