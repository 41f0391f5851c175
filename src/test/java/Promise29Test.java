import java.util.ArrayList;
import java.util.List;

/** Promise 29: undo, with the sentences of "Undo". */
public final class Promise29Test {
    private static final String EXCEPT = "The state is everything except the text and the saved states.";

    public static void main(String[] args) {
        Promise.test(Promise29Test.class);
    }

    @Sentence("NOT_POSSIBLE if no state is saved.")
    static void notPossibleForANewLoom() {
        Calls.refused(DropBoxLoom::new, "undo()", DropBoxLoom::undo, DropBoxLoom.NOT_POSSIBLE);
        Calls.refused(() -> Looms.withText("L0R0"), "undo() with a text", DropBoxLoom::undo, DropBoxLoom.NOT_POSSIBLE);
    }

    @Sentence("NOT_POSSIBLE if no state is saved.")
    static void notPossibleAfterRefusedCallsAlone() {
        DropBoxLoom x = new DropBoxLoom();
        x.mend(0, 100);
        x.weave(0);
        x.takeBack();
        x.takeOut(0);
        x.readCards();
        Check.due("undo()", x.undo(), DropBoxLoom.NOT_POSSIBLE);
    }

    @Sentence("NOT_POSSIBLE if no state is saved.")
    static void notPossibleAfterAllSavedStatesAreRestored() {
        Calls.refused(() -> {
            DropBoxLoom x = Looms.busy();
            Check.due("saved states", Check.savedStates(x), 6);
            return x;
        }, "undo()", DropBoxLoom::undo, DropBoxLoom.NOT_POSSIBLE);
    }

    @Sentence("Restores the state that was saved last, and discards it from the saved states.")
    static void restoresEachSavedStateOnceTheLastOneFirst() {
        DropBoxLoom x = new DropBoxLoom();
        x.setSpeed(2);
        x.setSpeed(3);
        x.undo();
        Check.due("speed", x.count(2), 2);
        x.undo();
        Check.due("speed", x.count(2), 1);
        x.undo();
        Check.due("speed", x.count(2), 1);
    }

    @Sentence("Returns the number of saved states that are left;")
    static void returnsTheNumberThatIsLeftFrom5To0() {
        DropBoxLoom x = new DropBoxLoom();
        for (int strength = 1; strength <= 6; strength++) {
            x.mend(0, strength);
        }
        for (int left = 5; left >= 0; left--) {
            Check.due("undo()", x.undo(), left);
            Check.due("strength", x.thread(0, 1), left == 0 ? 60 : left);
        }
    }

    @Sentence("At most 6 states are saved;")
    static void restoresAllOf6SavedStates() {
        DropBoxLoom x = new DropBoxLoom();
        long before = x.digest();
        for (int card = 0; card < 6; card++) {
            x.addCard(card, 0, 0);
        }
        Check.due("saved states", Check.savedStates(x), 6);
        Check.due("digest()", x.digest(), before);
    }

    @Sentence("when a seventh one is saved, the oldest one is discarded.")
    static void discardsTheOldestOf7SavedStates() {
        DropBoxLoom x = new DropBoxLoom();
        for (int card = 0; card < 7; card++) {
            x.addCard(card, 0, 0);
        }
        Check.due("saved states", Check.savedStates(x), 6);
        Check.due("cards, as after the first call", x.count(0), 1);
    }

    /** The saved states are compared with a list of strengths, past any number at which places are used again. */
    @Sentence({"At most 6 states are saved; when a seventh one is saved, the oldest one is discarded.",
        "Restores the state that was saved last, and discards it from the saved states."})
    static void restoresTheLastOneAgainAndAgainAfterMoreThan6() {
        DropBoxLoom x = new DropBoxLoom();
        List<Integer> saved = new ArrayList<>();
        int strength = 60;
        for (int round = 1; round <= 25; round++) {
            for (int call = 0; call < round % 9; call++) {
                saved.add(strength);
                strength = (7 * round + call) % 100;
                x.mend(3, strength);
            }
            while (saved.size() > 6) {
                saved.remove(0);
            }
            for (int call = 0; call < round * 3 % 7 && !saved.isEmpty(); call++) {
                strength = saved.remove(saved.size() - 1);
                Check.due("undo() in round " + round, x.undo(), saved.size());
                Check.due("strength in round " + round, x.thread(3, 1), strength);
            }
        }
    }

    @Sentence(EXCEPT)
    static void leavesTheText() {
        DropBoxLoom x = Looms.withText("L0");
        x.setSpeed(2);
        Check.typeText(x, "R0");
        Check.due("undo()", x.undo(), 0);
        Check.due("syntaxError()", x.syntaxError(), DropBoxLoom.NONE);
        Check.due("clearText()", x.clearText(), 4);
    }

    @Sentence(EXCEPT)
    static void restoresTheStrengthsAndTheStopsThatTakeBackLeaves() {
        DropBoxLoom x = Looms.moving(2);
        x.mend(3, 50);
        long before = x.digest();
        Check.due("weave(5)", x.weave(5), 2);
        x.takeBack();
        Check.due("strength", x.thread(3, 1), 48);
        x.undo();
        x.undo();
        Check.due("digest()", x.digest(), before);
        Check.due("strength", x.thread(3, 1), 50);
        Check.due("reason", x.count(9), 0);
        Check.due("number", x.count(10), DropBoxLoom.NONE);
        Check.due("stops", x.count(11), 0);
    }

    @Sentence(EXCEPT)
    static void restoresRowsThatLeftTheClothAndWhatCanBeTakenBack() {
        DropBoxLoom x = Looms.busy();
        DropBoxLoom y = Looms.busy();
        Check.due("weave(30)", x.weave(30), y.weave(30));
        Check.due("weave(13)", x.weave(13), 13);
        Check.due("rows", x.count(7), 20);
        x.undo();
        for (int i = 0; i <= 20; i++) {
            Check.due("digest()", x.digest(), y.digest());
            Check.due("takeBack() " + i, x.takeBack(), y.takeBack());
        }
        Check.due("rows", x.count(7), 0);
    }

    @Sentence("Methods marked \"Undoable\" save the state from before the call if they return no error code.")
    static void isNotSavedItself() {
        DropBoxLoom x = new DropBoxLoom();
        x.setSpeed(2);
        x.setSpeed(3);
        Check.due("undo()", x.undo(), 1);
        Check.due("undo()", x.undo(), 0);
        Check.due("speed", x.count(2), 1);
        Check.due("undo()", x.undo(), DropBoxLoom.NOT_POSSIBLE);
    }

    @Sentence("Methods marked \"Undoable\" save the state from before the call if they return no error code.")
    static void savesNothingByCallsThatAreNotUndoable() {
        DropBoxLoom x = Looms.plain(9);
        Check.due("saved states", Check.savedStates(x), 4);
        DropBoxLoom y = Looms.plain(9);
        Asked.all(y);
        y.type('L');
        y.clearText();
        y.syntaxError();
        y.inBox(0, 0);
        y.digest();
        Check.due("saved states", Check.savedStates(y), 4);
    }

    @Sentence("A call that returns NO_SUCH, BAD_VALUE, NOT_POSSIBLE, LIMIT or BAD_TEXT changes nothing.")
    static void leavesTheOldestStateByRefusedCalls() {
        DropBoxLoom x = Looms.busy();
        long[] digests = new long[6];
        DropBoxLoom y = Looms.busy();
        for (int i = 0; i < 6; i++) {
            y.undo();
            digests[i] = y.digest();
        }
        int[] dues = {DropBoxLoom.NO_SUCH, DropBoxLoom.BAD_VALUE, DropBoxLoom.NOT_POSSIBLE};
        int[] got = {x.takeOut(5), x.weave(100), x.takeOut(0)};
        for (int i = 0; i < dues.length; i++) {
            Check.due("refused call " + i, got[i], dues[i]);
        }
        for (long due : digests) {
            x.undo();
            Check.due("digest()", x.digest(), due);
        }
    }
}
