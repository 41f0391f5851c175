import java.lang.management.ManagementFactory;

/** The room that calls take: all calls of a run live in one room, so no call may make anything. */
public final class RoomTest {
    private static final int LOOMS = 20;
    private static final int CALLS = 500;
    /** Far below one small object a call, and far above what the measuring itself takes. */
    private static final long MOST_BYTES = 40_000;

    public static void main(String[] args) {
        com.sun.management.ThreadMXBean room =
                (com.sun.management.ThreadMXBean) ManagementFactory.getThreadMXBean();
        long me = Thread.currentThread().getId();
        DropBoxLoom[] looms = new DropBoxLoom[LOOMS];
        for (int i = 0; i < LOOMS; i++) {
            looms[i] = new DropBoxLoom();
        }
        long sum = use(looms[0]);
        long before = room.getThreadAllocatedBytes(me);
        for (int i = 1; i < LOOMS; i++) {
            sum += use(looms[i]);
        }
        long taken = room.getThreadAllocatedBytes(me) - before;
        Check.holds("the calls are made", sum != 0);
        Check.holds(taken + " bytes taken by " + CALLS * (LOOMS - 1) + " calls", taken < MOST_BYTES);
        Check.end("RoomTest");
    }

    private static long use(DropBoxLoom x) {
        long sum = 0;
        x.wind(0, 0, 99);
        x.putIn(0, 0, 0);
        x.addCard(5, 0, 0);
        for (int i = 3; i + 20 <= CALLS; i += 20) {
            sum += x.type('L') + x.type('0') + x.type('R') + x.type('0') + x.syntaxError() + x.readCards();
            sum += x.weave(3) + x.takeBack() + x.mend(i % 12, 60) + x.draw(0, 0) + x.turnTo(0);
            sum += x.clearText() + x.longestFloat(3) + x.cloth(0, 1) + x.picksLeft() + x.firstEmpty();
            sum += x.repeats() + x.digest() + x.undo() + x.removeCard(1);
        }
        return sum;
    }
}
