/** Promises 9 to 11: addCard, removeCard, turnTo. */
public final class CardsTest {
    public static void main(String[] args) {
        addCard();
        removeCard();
        placeWhenCardsGo();
        turnTo();
        Check.end("CardsTest");
    }

    private static void addCard() {
        DropBoxLoom x = new DropBoxLoom();
        Check.refused(x, "addCard(-1, 0, 0)", () -> x.addCard(-1, 0, 0), DropBoxLoom.BAD_VALUE);
        Check.refused(x, "addCard(64, 0, 0)", () -> x.addCard(64, 0, 0), DropBoxLoom.BAD_VALUE);
        Check.refused(x, "addCard(0, -1, 0)", () -> x.addCard(0, -1, 0), DropBoxLoom.NO_SUCH);
        Check.refused(x, "addCard(0, 4, 0)", () -> x.addCard(0, 4, 0), DropBoxLoom.NO_SUCH);
        Check.refused(x, "addCard(0, 0, -1)", () -> x.addCard(0, 0, -1), DropBoxLoom.NO_SUCH);
        Check.refused(x, "addCard(0, 0, 2)", () -> x.addCard(0, 0, 2), DropBoxLoom.NO_SUCH);
        Check.refused(x, "BAD_VALUE before NO_SUCH", () -> x.addCard(64, 4, 2), DropBoxLoom.BAD_VALUE);
        for (int c = 0; c < 16; c++) {
            Check.due("addCard " + c, x.addCard(4 * c, c % 4, c % 2), c);
        }
        Check.due("count(0)", x.count(0), 16);
        Check.due("frames of 15", x.card(15, 0), 60);
        Check.due("left of 15", x.card(15, 1), 3);
        Check.due("right of 15", x.card(15, 2), 1);
        Check.refused(x, "a 17th card", () -> x.addCard(63, 3, 1), DropBoxLoom.LIMIT);
        Check.refused(x, "BAD_VALUE before LIMIT", () -> x.addCard(64, 0, 0), DropBoxLoom.BAD_VALUE);
        Check.refused(x, "NO_SUCH before LIMIT", () -> x.addCard(0, 4, 0), DropBoxLoom.NO_SUCH);
        Check.due("the place stays", x.count(1), 0);
    }

    private static void removeCard() {
        DropBoxLoom x = new DropBoxLoom();
        Check.refused(x, "removeCard(0) of none", () -> x.removeCard(0), DropBoxLoom.NO_SUCH);
        for (int c = 0; c < 16; c++) {
            x.addCard(c, c % 4, c / 8);
        }
        Check.refused(x, "removeCard(-1)", () -> x.removeCard(-1), DropBoxLoom.NO_SUCH);
        Check.refused(x, "removeCard(16)", () -> x.removeCard(16), DropBoxLoom.NO_SUCH);
        Check.due("removeCard(3) of a full chain", x.removeCard(3), 15);
        for (int c = 0; c < 15; c++) {
            int was = c < 3 ? c : c + 1;
            Check.due("frames of " + c, x.card(c, 0), was);
            Check.due("left of " + c, x.card(c, 1), was % 4);
            Check.due("right of " + c, x.card(c, 2), was / 8);
        }
        x.undo();
        Check.due("removeCard(15)", x.removeCard(15), 15);
        Check.due("removeCard(7)", x.removeCard(7), 14);
        Check.due("frames of 6", x.card(6, 0), 6);
        Check.due("frames of 7", x.card(7, 0), 8);
        Check.due("left of 7", x.card(7, 1), 0);
        Check.due("right of 7", x.card(7, 2), 1);
        Check.due("frames of 13", x.card(13, 0), 14);
        Check.due("no card 14", x.card(14, 0), DropBoxLoom.NO_SUCH);
        Check.due("saved", Check.savedStates(x), 6);
    }

    private static void placeWhenCardsGo() {
        DropBoxLoom x = new DropBoxLoom();
        for (int c = 0; c < 5; c++) {
            x.addCard(c, 0, 0);
        }
        x.turnTo(3);
        x.removeCard(0);
        Check.due("place behind the removed card", x.count(1), 2);
        x.removeCard(2);
        Check.due("place at the removed card", x.count(1), 2);
        Check.due("the card that comes next", x.card(2, 0), 4);
        x.turnTo(1);
        x.removeCard(2);
        Check.due("place before the removed card", x.count(1), 1);
        x.removeCard(1);
        Check.due("place at the last card, which is removed", x.count(1), 0);
        Check.due("removeCard(0)", x.removeCard(0), 0);
        Check.due("place of an empty chain", x.count(1), 0);
    }

    private static void turnTo() {
        DropBoxLoom x = new DropBoxLoom();
        Check.refused(x, "turnTo(0) of none", () -> x.turnTo(0), DropBoxLoom.NO_SUCH);
        x.addCard(0, 0, 0);
        x.addCard(0, 0, 0);
        Check.due("turnTo(1)", x.turnTo(1), 0);
        Check.due("turnTo(1)", x.turnTo(1), 1);
        Check.due("turnTo(0)", x.turnTo(0), 1);
        Check.due("count(1)", x.count(1), 0);
        Check.refused(x, "turnTo(2)", () -> x.turnTo(2), DropBoxLoom.NO_SUCH);
        Check.refused(x, "turnTo(-1)", () -> x.turnTo(-1), DropBoxLoom.NO_SUCH);
        Check.due("saved", Check.savedStates(x), 5);
    }
}
