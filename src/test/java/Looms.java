/** Looms that many tests begin with. */
final class Looms {
    private Looms() {
    }

    /** The shuttle 2 in the left box 1, and cards that lift nothing: picks are stopped by yarn alone. */
    static DropBoxLoom plain(int yarn) {
        return withShuttle(yarn, 0);
    }

    /** As plain(), but all frames move with each pick. */
    static DropBoxLoom moving(int yarn) {
        return withShuttle(yarn, 63);
    }

    private static DropBoxLoom withShuttle(int yarn, int frames) {
        DropBoxLoom x = new DropBoxLoom();
        x.wind(2, 7, yarn);
        x.putIn(2, 0, 1);
        x.addCard(frames, 1, 1);
        x.addCard(0, 1, 1);
        return x;
    }

    /**
     * One that has something of all: 3 cards, the place 1, 4 rows that can all be taken back, one stop,
     * 6 saved states, the text 2L1R0; the shuttle 4 lies in the right box 0, the shuttle 2 in the left
     * box 2, the others in the drawer, and the shuttle 4 flies next.
     */
    static DropBoxLoom busy() {
        DropBoxLoom x = new DropBoxLoom();
        x.weave(1);
        x.wind(4, 9, 50);
        x.putIn(4, 0, 1);
        x.putIn(2, 1, 1);
        x.addCard(5, 1, 0);
        x.addCard(3, 1, 0);
        x.addCard(8, 2, 1);
        x.weave(4);
        Check.typeText(x, "2L1R0");
        return x;
    }

    /** As busy(), with 16 cards; the 6 saved states are the latest of them. */
    static DropBoxLoom fullChain() {
        DropBoxLoom x = busy();
        for (int card = 3; card < 16; card++) {
            x.addCard(card, card % 4, card % 2);
        }
        return x;
    }

    /**
     * All that can be full: 16 cards, 20 rows after 30 picks, 5 shuttles in boxes, 80 characters, 6 saved
     * states. The shuttle 4 rests in the right box 0; each other one flies twice to the right box 1 and back.
     */
    static DropBoxLoom full() {
        DropBoxLoom x = new DropBoxLoom();
        for (int s = 0; s < 5; s++) {
            x.wind(s, 9 - s, 99);
            x.putIn(s, s / 4, s % 4);
        }
        for (int card = 0; card < 16; card++) {
            x.addCard(card % 4 == 1 ? 42 : 21 + card, card / 4, 1);
        }
        x.weave(30);
        Check.typeText(x, "L0R0;".repeat(16));
        return x;
    }

    static DropBoxLoom withCards(int cards) {
        DropBoxLoom x = new DropBoxLoom();
        for (int card = 0; card < cards; card++) {
            x.addCard(card, card % 4, card % 2);
        }
        return x;
    }

    static DropBoxLoom withText(String text) {
        DropBoxLoom x = new DropBoxLoom();
        Check.typeText(x, text);
        return x;
    }
}
