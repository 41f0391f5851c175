import java.math.BigInteger;
import java.util.List;

/** Promise 30: digest. */
public final class Promise30Test {
    private static final BigInteger WRAP = BigInteger.ONE.shiftLeft(64);

    public static void main(String[] args) {
        Promise.test(Promise30Test.class);
    }

    private static void hashed(String what, DropBoxLoom x) {
        long got = x.digest();
        BigInteger due = BigInteger.valueOf(334);
        for (int value : Asked.all(x)) {
            due = due.multiply(BigInteger.valueOf(31)).add(BigInteger.valueOf(value));
        }
        Check.holds(what + ": the hash outgrows a long", due.bitLength() > 64);
        Check.due("digest() of " + what, got, due.mod(WRAP).longValue());
    }

    @Sentence("The hash starts at 334.")
    static void isThatOfANewLoom() {
        int none = DropBoxLoom.NONE;
        long hash = 334;
        int[] counts = {0, 0, 1, 0, 0, 0, 0, 0, 0, 0, none, 0};
        for (int value : counts) {
            hash = 31 * hash + value;
        }
        for (int s = 0; s < 5; s++) {
            for (int value : new int[] {s, 20, none, none}) {
                hash = 31 * hash + value;
            }
        }
        for (int t = 0; t < 12; t++) {
            for (int value : new int[] {t % 6, 60, 0, 0}) {
                hash = 31 * hash + value;
            }
        }
        for (int value : new int[] {1, 0, none, 0}) {
            hash = 31 * hash + value;
        }
        Check.due("digest()", new DropBoxLoom().digest(), hash);
    }

    @Sentence({"For each value v of the following list, in order, the hash becomes 31 * hash + v,"
            + " in long arithmetic with overflow.",
        "Returns the hash."})
    static void hashesAllThatCanBeAskedWithOverflow() {
        hashed("a new loom", new DropBoxLoom());
        hashed("a busy loom", Looms.busy());
        hashed("a loom with cards alone", Looms.withCards(3));
        hashed("a loom without cards but with rows", withRowsAlone());
    }

    private static DropBoxLoom withRowsAlone() {
        DropBoxLoom x = Looms.moving(5);
        x.weave(5);
        x.removeCard(0);
        x.removeCard(0);
        return x;
    }

    @Sentence("The list is: count(0) to count(11);")
    static void hashesTheFirstAndTheLastCount() {
        DropBoxLoom x = Looms.withCards(7);
        x.weave(9);
        x.weave(9);
        Check.due("count(0)", x.count(0), 7);
        Check.due("count(11)", x.count(11), 2);
        hashed("a loom with 7 cards and 2 stops", x);
    }

    @Sentence("for each shuttle its numbers 0 to 3;")
    static void hashesTheFirstAndTheLastNumberOfTheShuttles0And4() {
        for (int s = 0; s < 5; s += 4) {
            DropBoxLoom x = new DropBoxLoom();
            x.wind(s, 9, 99);
            x.putIn(s, 0, 3);
            hashed("a loom with the shuttle " + s, x);
        }
    }

    @Sentence("for each thread its numbers 0 to 2 and longestFloat();")
    static void hashesTheNumbersAndTheFloatsOfTheThreads0And11() {
        for (int t = 0; t < 12; t += 11) {
            DropBoxLoom x = Looms.moving(9);
            x.draw(t, 3);
            x.mend(t, 99);
            x.weave(3);
            x.turnTo(0);
            x.weave(1);
            Check.due("longestFloat(" + t + ")", x.longestFloat(t), 2);
            hashed("a loom with the thread " + t, x);
        }
    }

    @Sentence("for each card its numbers 0 to 3;")
    static void hashesAll16Cards() {
        DropBoxLoom x = Looms.withCards(16);
        Check.due("cards", x.count(0), 16);
        hashed("a full chain", x);
    }

    @Sentence("for each row, from the latest one on, what the cloth shows of the threads 0 to 11;")
    static void hashesAll20Rows() {
        DropBoxLoom x = Looms.full();
        Check.due("rows", x.count(7), 20);
        hashed("a full cloth", x);
    }

    @Sentence("whyNot();")
    static void hashesWhyNot() {
        hashed("a loom that is stopped by the reason 6", Looms.plain(0));
        hashed("a loom that is not stopped", Looms.plain(1));
    }

    @Sentence("picksLeft();")
    static void hashesPicksLeftToItsMost() {
        DropBoxLoom x = Looms.full();
        Check.due("picksLeft()", x.picksLeft(), 30);
        hashed("a loom with 30 picks left", x);
        DropBoxLoom y = new DropBoxLoom();
        for (int s = 0; s < 4; s++) {
            y.wind(s, s, 99);
            y.putIn(s, 0, s);
            y.addCard(0, s, 0);
            y.addCard(0, s, 0);
        }
        Check.due("picksLeft()", y.picksLeft(), 200);
        hashed("a loom with 200 picks left", y);
    }

    @Sentence("firstEmpty();")
    static void hashesFirstEmptyAndNone() {
        DropBoxLoom x = new DropBoxLoom();
        x.putIn(4, 0, 0);
        x.addCard(0, 0, 0);
        Check.due("firstEmpty()", x.firstEmpty(), 4);
        hashed("a loom whose shuttle 4 is empty first", x);
        x.addCard(0, 0, 1);
        Check.due("firstEmpty()", x.firstEmpty(), DropBoxLoom.NONE);
        hashed("a loom without a first empty shuttle", x);
    }

    @Sentence("repeats().")
    static void hashesRepeats() {
        Check.due("repeats()", Looms.plain(2).repeats(), 1);
        hashed("a loom that repeats", Looms.plain(2));
        Check.due("repeats()", Looms.plain(1).repeats(), 0);
        hashed("a loom that does not repeat", Looms.plain(1));
    }

    @Sentence("Computes a hash of the state.")
    static void leavesTheTextAndTheSavedStatesOut() {
        DropBoxLoom x = new DropBoxLoom();
        long due = x.digest();
        Check.typeText(x, "L0R0");
        Check.due("digest() with a text", x.digest(), due);
        x.setSpeed(3);
        x.setSpeed(1);
        Check.due("digest() with saved states", x.digest(), due);
    }

    @Sentence("Computes a hash of the state.")
    static void tellsEachChangeOfTheStateAndIsAsBeforeWithoutIt() {
        Calls.Call[] changes = {
            x -> x.putIn(0, 1, 1), x -> x.takeOut(2), x -> x.wind(3, 3, 21), x -> x.wind(3, 4, 20),
            x -> x.moveBoxes(0, 2), x -> x.moveBoxes(1, 1), x -> x.draw(3, 4), x -> x.mend(11, 61), x -> x.setSpeed(2),
            x -> x.addCard(1, 0, 0), x -> x.removeCard(0), x -> x.turnTo(2), x -> x.weave(1), DropBoxLoom::takeBack,
            DropBoxLoom::readCards};
        for (int i = 0; i < changes.length; i++) {
            DropBoxLoom x = Looms.busy();
            long before = x.digest();
            Check.holds("change " + i + " is possible", changes[i].made(x) >= 0);
            Check.holds("change " + i + " is told", x.digest() != before);
            x.undo();
            Check.due("digest() without change " + i, x.digest(), before);
        }
    }

    @Sentence("Computes a hash of the state.")
    static void changesNothing() {
        Calls.changesNothing(Looms::busy, "digest()", x -> (int) x.digest());
        DropBoxLoom x = Looms.full();
        long due = x.digest();
        Check.due("digest() again", x.digest(), due);
        List<Integer> asked = Asked.all(x);
        Check.holds("all that is asked", asked.equals(Asked.all(Looms.full())));
    }
}
