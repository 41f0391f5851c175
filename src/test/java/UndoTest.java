/** Promises 29 and 30: undo and digest. */
public final class UndoTest {
    public static void main(String[] args) {
        undoOfEach();
        atMostSix();
        undoAndTakeBack();
        rowsAfterUndo();
        cardsAfterUndo();
        undoOfStops();
        digestOfNew();
        digestOfWoven();
        Check.end("UndoTest");
    }

    private interface Call {
        int made(DropBoxLoom loom);
    }

    private static DropBoxLoom loom() {
        DropBoxLoom x = new DropBoxLoom();
        x.wind(0, 0, 99);
        x.putIn(0, 0, 0);
        x.addCard(5, 0, 0);
        x.addCard(6, 0, 0);
        x.addCard(6, 0, 0);
        x.weave(1);
        return x;
    }

    private static void undoOfEach() {
        Call[] calls = {
            x -> x.putIn(1, 1, 1), x -> x.takeOut(0), x -> x.wind(1, 9, 3), x -> x.moveBoxes(0, 3),
            x -> x.draw(3, 5), x -> x.mend(3, 1), x -> x.setSpeed(2), x -> x.addCard(1, 1, 1),
            x -> x.removeCard(0), x -> x.turnTo(2), x -> x.weave(30), DropBoxLoom::takeBack, x -> {
                Check.typeText(x, "1L0R0;L0R1");
                return x.readCards();
            }};
        for (int i = 0; i < calls.length; i++) {
            DropBoxLoom x = loom();
            long before = x.digest();
            Check.holds("call " + i + " is possible", calls[i].made(x) >= 0);
            Check.holds("call " + i + " changes the digest", x.digest() != before);
            Check.due("undo() of call " + i, x.undo(), 5);
            Check.due("digest after undo() of call " + i, x.digest(), before);
            Check.due("the second time", calls[i].made(x), calls[i].made(loom()));
        }
    }

    private static void atMostSix() {
        DropBoxLoom x = new DropBoxLoom();
        Check.due("undo() of none", x.undo(), DropBoxLoom.NOT_POSSIBLE);
        for (int strength = 1; strength <= 20; strength++) {
            x.mend(0, strength);
        }
        for (int i = 0; i < 6; i++) {
            Check.due("undo()", x.undo(), 5 - i);
            Check.due("strength", x.thread(0, 1), 19 - i);
        }
        Check.due("undo() of none", x.undo(), DropBoxLoom.NOT_POSSIBLE);
        Check.due("strength", x.thread(0, 1), 14);
        x.mend(0, 40);
        Check.due("undo() of one", x.undo(), 0);
        Check.due("strength", x.thread(0, 1), 14);
        x.mend(0, 41);
        x.mend(0, 42);
        x.undo();
        x.mend(0, 43);
        x.undo();
        Check.due("strength", x.thread(0, 1), 41);
        x.mend(0, 100);
        Check.due("refused calls are not saved", x.undo(), 0);
    }

    private static void undoAndTakeBack() {
        DropBoxLoom x = loom();
        x.weave(4);
        long woven = x.digest();
        x.takeBack();
        x.takeBack();
        x.undo();
        Check.due("undo() of takeBack()", x.count(8), 4);
        Check.due("picks", x.count(6), 4);
        x.undo();
        Check.due("digest", x.digest(), woven);
        x.undo();
        Check.due("undo() of weave()", x.count(8), 1);
        Check.due("strengths come back by undo()", x.thread(0, 1), 59);
        Check.due("takeBack()", x.takeBack(), 0);
        DropBoxLoom y = loom();
        y.weave(30);
        long latest = y.digest();
        Check.due("weave(30)", y.weave(30), 30);
        y.undo();
        Check.due("rows that left come back by undo()", y.digest(), latest);
    }

    /** Two shuttles weave a full cloth; 6 cards, for 20 rows are not a multiple of them. */
    private static DropBoxLoom striped() {
        DropBoxLoom x = new DropBoxLoom();
        for (int s = 3; s < 5; s++) {
            x.wind(s, s, 99);
            x.putIn(s, 0, s - 1);
        }
        for (int c = 0; c < 6; c++) {
            x.addCard(7 * c, c < 4 ? 2 : 3, c < 4 ? 0 : 1);
        }
        Check.due("weave(25)", x.weave(25), 25);
        return x;
    }

    /** Rows that an undone weave() wrote over are whole again, for the cloth and for taking back. */
    private static void rowsAfterUndo() {
        DropBoxLoom x = striped();
        DropBoxLoom y = striped();
        Check.due("weave(18)", x.weave(18), 18);
        x.undo();
        for (int i = 0; i <= 20; i++) {
            Check.due("digest before takeBack() " + i, x.digest(), y.digest());
            Check.due("takeBack() " + i, x.takeBack(), y.takeBack());
        }
        Check.due("rows", x.count(7), 0);
    }

    private static void cardsAfterUndo() {
        DropBoxLoom x = striped();
        long before = x.digest();
        for (int c = 0; c < 6; c++) {
            Check.due("removeCard(" + c + ")", x.removeCard(c), 5);
            x.undo();
            Check.due("digest after undo() of removeCard(" + c + ")", x.digest(), before);
        }
    }

    private static void undoOfStops() {
        DropBoxLoom x = new DropBoxLoom();
        x.weave(1);
        x.mend(7, 0);
        x.addCard(0, 0, 0);
        x.weave(1);
        Check.due("reason", x.count(9), 2);
        Check.due("number", x.count(10), 7);
        Check.due("stops", x.count(11), 2);
        x.undo();
        Check.due("reason", x.count(9), 1);
        Check.due("number", x.count(10), DropBoxLoom.NONE);
        Check.due("stops", x.count(11), 1);
    }

    private static long hash(long hash, int... values) {
        long all = hash;
        for (int value : values) {
            all = 31 * all + value;
        }
        return all;
    }

    private static void digestOfNew() {
        int none = DropBoxLoom.NONE;
        long due = hash(334, 0, 0, 1, 0, 0, 0, 0, 0, 0, 0, none, 0);
        for (int s = 0; s < 5; s++) {
            due = hash(due, s, 20, none, none);
        }
        for (int t = 0; t < 12; t++) {
            due = hash(due, t % 6, 60, 0, 0);
        }
        due = hash(due, 1, 0, none, 0);
        DropBoxLoom x = new DropBoxLoom();
        Check.due("digest() of a new object", x.digest(), due);
        Check.typeText(x, "L0R0");
        Check.due("digest() leaves the text out", x.digest(), due);
        x.setSpeed(2);
        x.setSpeed(1);
        Check.due("digest() leaves the saved states out", x.digest(), due);
    }

    private static void digestOfWoven() {
        int none = DropBoxLoom.NONE;
        DropBoxLoom x = new DropBoxLoom();
        x.putIn(3, 0, 0);
        x.addCard(1, 0, 1);
        x.addCard(2, 0, 1);
        x.weave(2);
        long due = hash(334, 2, 0, 1, 0, 1, 2, 2, 2, 2, 0, none, 0);
        for (int s = 0; s < 5; s++) {
            due = s == 3 ? hash(due, 3, 18, 0, 0) : hash(due, s, 20, none, none);
        }
        for (int t = 0; t < 12; t++) {
            int frame = t % 6;
            due = frame == 0 ? hash(due, 0, 58, 0, 1)
                    : frame == 1 ? hash(due, 1, 59, 1, 1) : hash(due, frame, 60, 0, 2);
        }
        due = hash(due, 1, 0, 1, 1 | 64, 2, 0, 1, 2 | 128);
        due = hash(due, 3, 101, 3, 3, 3, 3, 3, 107, 3, 3, 3, 3);
        due = hash(due, 100, 3, 3, 3, 3, 3, 106, 3, 3, 3, 3, 3);
        due = hash(due, 0, 18, 3, 1);
        Check.due("digest()", x.digest(), due);
    }
}
