import java.util.function.Predicate;
import java.util.function.Supplier;

/**
 * Terms: "A call that is refused changes nothing." Each refused call by itself on several nets, with
 * the whole picture of the net before it and after it; questions about what there is not, too.
 */
public final class RefusedCallsTest {
    private static final int NONE = AlikeStates.NONE;

    private static final Checks checks = new Checks();

    private final String name;
    private final Supplier<AlikeStates> made;
    private final Picture before;

    private RefusedCallsTest(String name, Supplier<AlikeStates> made) {
        this.name = name;
        this.made = made;
        before = new Picture(made);
    }

    public static void main(String[] args) {
        new RefusedCallsTest("just made", AlikeStates::new).empty();
        new RefusedCallsTest("just cleared", RefusedCallsTest::justCleared).empty();
        new RefusedCallsTest("some moves", RefusedCallsTest::someMoves).some();
        new RefusedCallsTest("24 kinds", () -> Nets.chain(0)).noSuchThings();
        new RefusedCallsTest("119 moves", () -> Nets.filled(119)).almostFull();
        new RefusedCallsTest("120 moves", Nets::full).full();
        picturesSeeEveryChange();
        checks.end();
    }

    private static AlikeStates justCleared() {
        AlikeStates x = someMoves();
        x.clear();
        return x;
    }

    private static AlikeStates someMoves() {
        AlikeStates x = Nets.of(0, 0, 1, 1, 1, 2, 1, 2, 0, 23, 3, 0, 22, 3, 23, 5, 0, 6, 23, 3, 23);
        x.colour(2, 6);
        x.colour(22, Nets.LEAST);
        x.colour(23, Nets.GREATEST);
        return x;
    }

    private void empty() {
        noSuchThings();
        refused("drop(0, 0, 0)", x -> x.drop(0, 0, 0));
        refused("drop(0, 0, 1)", x -> x.drop(0, 0, 1));
        refused("drop(23, 3, 23)", x -> x.drop(23, 3, 23));
        refused("drop(22, 3, 23)", x -> x.drop(22, 3, 23));
    }

    private void some() {
        noSuchThings();
        refused("a move that is there", x -> x.move(0, 0, 1));
        refused("the last move that is there", x -> x.move(23, 3, 23));
        refused("drop of the move back", x -> x.drop(1, 0, 0));
        refused("drop with the label before", x -> x.drop(1, 1, 0));
        refused("drop with the label after", x -> x.drop(1, 2, 2));
        refused("drop to the state before", x -> x.drop(5, 0, 5));
        refused("drop to the state after", x -> x.drop(5, 0, 7));
        refused("drop from the state before", x -> x.drop(4, 0, 6));
        refused("drop from the state after", x -> x.drop(6, 0, 6));
    }

    private void almostFull() {
        refused("the first move again", x -> x.move(0, 0, 0));
        refused("the 119th move again", x -> x.move(1, 3, 13));
        refused("drop of the 120th", x -> x.drop(1, 3, 14));
    }

    private void full() {
        noSuchThings();
        refused("the 121st move", x -> x.move(2, 0, 2));
        refused("the 121st move from the last state", x -> x.move(23, 3, 23));
        refused("the 121st move from the first state", x -> x.move(0, 0, 15));
        refused("the first move again", x -> x.move(0, 0, 0));
        refused("the 120th move again", x -> x.move(1, 3, 14));
        refused("drop of the 121st", x -> x.drop(2, 0, 2));
    }

    private void noSuchThings() {
        for (int none : Nets.NO_STATES) {
            refused("move from no state " + none, x -> x.move(none, 0, 1));
            refused("move to no state " + none, x -> x.move(0, 0, none));
            refused("drop from no state " + none, x -> x.drop(none, 0, 1));
            refused("drop to no state " + none, x -> x.drop(0, 0, none));
            refused("colour of no state " + none, x -> x.colour(none, 6));
            refused("questions about no state " + none, x -> answersAbout(x, none));
        }
        for (int none : Nets.NO_LABELS) {
            refused("move with no label " + none, x -> x.move(1, none, 2));
            refused("drop with no label " + none, x -> x.drop(1, none, 2));
            refused("reach by no label " + none, x -> x.reach(0, none) != 0);
        }
    }

    /** Whether any of the questions about a state, a kind or a number of an attack that is none is answered. */
    private static boolean answersAbout(AlikeStates x, int none) {
        return x.alike(none, 0) | x.alike(0, none) | x.covers(none, 0) | x.covers(0, none)
                | x.breach(none, 0) != NONE | x.breach(0, none) != NONE
                | x.kind(none) != NONE | x.below(none) != NONE
                | x.size(none) != 0 | x.reach(none, 0) != 0
                | x.attacks(none, 0) != 0 | x.attacks(0, none) != 0
                | x.play(none, 0) != 0 | x.play(0, none) != 0
                | x.attack(none, 0, 0) != NONE | x.attack(0, none, 0) != NONE | x.attack(0, 1, none) != NONE
                | x.answer(none, 0, 0) != NONE | x.answer(0, none, 0) != NONE | x.answer(0, 1, none) != NONE;
    }

    /** Once on an object that was asked nothing before, once on one that may have kept its answers. */
    private void refused(String what, Predicate<AlikeStates> call) {
        for (int asked = 0; asked < 2; asked++) {
            boolean first = asked == 1;
            String where = name + (first ? ", asked before: " : ": ") + what;
            Picture after = new Picture(() -> {
                AlikeStates x = made.get();
                if (first) {
                    askSome(x);
                }
                if (call.test(x)) {
                    checks.isTrue(where + " is refused", false);
                }
                return x;
            });
            String difference = before.differenceTo(after);
            checks.isTrue(where + " changed " + difference, difference.isEmpty());
        }
    }

    private static void askSome(AlikeStates x) {
        x.kinds();
        x.links();
        x.below(0);
        x.covers(1, 0);
        x.attacks(0, 1);
        x.play(0, 1);
    }

    /** What the checks above rest on: that a picture shows the least change. */
    private static void picturesSeeEveryChange() {
        differs("a move less", x -> x.drop(5, 0, 6));
        differs("a move more", x -> x.move(7, 2, 7));
        differs("a move more between others alike", x -> x.move(23, 3, 22));
        differs("a colour that no other one has", x -> x.colour(22, 1));
        differs("a colour that others have", x -> x.colour(2, 0));
        differs("nothing at all", x -> x.clear() >= 0);
    }

    private static void differs(String what, Predicate<AlikeStates> call) {
        Picture after = new Picture(() -> {
            AlikeStates x = someMoves();
            checks.isTrue("a picture with " + what + " has it", call.test(x));
            return x;
        });
        boolean seen = !new Picture(RefusedCallsTest::someMoves).differenceTo(after).isEmpty();
        checks.isTrue("a picture shows " + what, seen);
    }
}
