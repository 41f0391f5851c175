import java.util.ArrayList;
import java.util.List;

/** All that can be asked of a loom, in the order in which digest() takes it; that can take 400 calls. */
final class Asked {
    static final int REASON = 9;
    static final int STOP_NUMBER = 10;
    static final int STOPS = 11;
    private static final int COUNTS = 12;
    private static final int SHUTTLE_NUMBERS = 20;
    private static final int THREADS = 12;
    private static final int FORECASTS = 4;

    private Asked() {
    }

    static List<Integer> all(DropBoxLoom x) {
        List<Integer> values = new ArrayList<>();
        for (int what = 0; what < COUNTS; what++) {
            values.add(x.count(what));
        }
        for (int i = 0; i < SHUTTLE_NUMBERS; i++) {
            values.add(x.shuttle(i / 4, i % 4));
        }
        for (int t = 0; t < THREADS; t++) {
            values.addAll(List.of(x.thread(t, 0), x.thread(t, 1), x.thread(t, 2), x.longestFloat(t)));
        }
        int cards = values.get(0);
        for (int i = 0; i < 4 * cards; i++) {
            values.add(x.card(i / 4, i % 4));
        }
        int rows = values.get(7);
        for (int i = 0; i < THREADS * rows; i++) {
            values.add(x.cloth(i / THREADS, i % THREADS));
        }
        values.addAll(List.of(x.whyNot(), x.picksLeft(), x.firstEmpty(), x.repeats()));
        return values;
    }

    /** The latest stop and the number of stops are left out. */
    static List<Integer> allButStops(DropBoxLoom x) {
        List<Integer> values = all(x);
        values.subList(REASON, STOPS + 1).clear();
        return values;
    }

    /** The strengths, the stops and the forecasts, which follow from the strengths, are left out. */
    static List<Integer> allButStopsAndStrengths(DropBoxLoom x) {
        List<Integer> values = all(x);
        values.subList(values.size() - FORECASTS, values.size()).clear();
        for (int t = THREADS - 1; t >= 0; t--) {
            values.remove(COUNTS + SHUTTLE_NUMBERS + 4 * t + 1);
        }
        values.subList(REASON, STOPS + 1).clear();
        return values;
    }
}
