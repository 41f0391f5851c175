/** Promise 19: cloth. A busy loom has 4 rows. */
public final class Promise19Test {
    public static void main(String[] args) {
        Promise.test(Promise19Test.class);
    }

    @Sentence("Where a thread is lifted, the cloth shows the thread, otherwise it shows the colour of the row.")
    static void showsNoThreadAndAllThreads() {
        DropBoxLoom x = Looms.moving(9);
        x.weave(2);
        for (int t = 0; t < 12; t++) {
            Check.due("no frame is lifted", x.cloth(0, t), 7);
            Check.due("all frames are lifted", x.cloth(1, t), 100 + t);
        }
    }

    @Sentence({"Returns what the cloth shows.",
        "Returns 100 + the thread if it is lifted in this row, otherwise the colour of the row;"})
    static void showsTheThreadOrTheColourOfEachRow() {
        DropBoxLoom x = Looms.busy();
        int[] frames = {5, 8, 3, 5};
        int[] colours = {9, 2, 9, 9};
        for (int row = 0; row < 4; row++) {
            for (int t = 0; t < 12; t++) {
                boolean lifted = (frames[row] >> t % 6 & 1) == 1;
                Check.due("cloth(" + row + ", " + t + ")", x.cloth(row, t), lifted ? 100 + t : colours[row]);
            }
        }
    }

    @Sentence("Returns 100 + the thread if it is lifted in this row, otherwise the colour of the row;")
    static void showsTheColours0And9() {
        for (int colour = 0; colour <= 9; colour += 9) {
            DropBoxLoom x = new DropBoxLoom();
            x.wind(3, colour, 9);
            x.putIn(3, 0, 0);
            x.addCard(0, 0, 0);
            x.weave(1);
            Check.due("cloth(0, 0)", x.cloth(0, 0), colour);
        }
    }

    @Sentence("`row`: 0 for the latest row")
    static void showsTheRows0And19OfAFullCloth() {
        DropBoxLoom x = Looms.plain(99);
        x.addCard(1, 1, 1);
        for (int picks = 20; picks <= 43; picks++) {
            x.weave(picks == 20 ? 20 : 1);
            Check.due("row 0 after " + picks, x.cloth(0, 0), picks % 3 == 0 ? 100 : 7);
            Check.due("row 19 after " + picks, x.cloth(19, 0), (picks - 19) % 3 == 0 ? 100 : 7);
        }
    }

    @Sentence("`thread`: 0 to 11")
    static void showsTheThreads0And11() {
        DropBoxLoom x = Looms.moving(9);
        x.weave(1);
        Check.due("cloth(0, 0)", x.cloth(0, 0), 100);
        Check.due("cloth(0, 11)", x.cloth(0, 11), 111);
    }

    @Sentence("NO_SUCH if there is no such row or thread.")
    static void noSuchRow() {
        Calls.refusedOutside(0, 3, DropBoxLoom.NO_SUCH, (x, row) -> x.cloth(row, 0));
    }

    @Sentence("NO_SUCH if there is no such row or thread.")
    static void noSuchRowOnAClothWithoutRows() {
        Calls.refused(DropBoxLoom::new, "cloth(0, 0)", x -> x.cloth(0, 0), DropBoxLoom.NO_SUCH);
        DropBoxLoom x = Looms.plain(9);
        x.weave(1);
        x.takeBack();
        Check.due("cloth(0, 0) after takeBack()", x.cloth(0, 0), DropBoxLoom.NO_SUCH);
    }

    @Sentence("NO_SUCH if there is no such row or thread.")
    static void noSuchRowBehindAFullCloth() {
        Calls.refused(Looms::full, "cloth(20, 0)", x -> x.cloth(20, 0), DropBoxLoom.NO_SUCH);
        Calls.refused(Looms::full, "cloth(-1, 0)", x -> x.cloth(-1, 0), DropBoxLoom.NO_SUCH);
    }

    @Sentence("NO_SUCH if there is no such row or thread.")
    static void noSuchThread() {
        Calls.refusedOutside(0, 11, DropBoxLoom.NO_SUCH, (x, thread) -> x.cloth(0, thread));
    }
}
