import java.util.ArrayList;
import java.util.List;
import java.util.regex.Matcher;
import java.util.regex.Pattern;

/**
 * The document once more, written another way: every pick and every saved state keeps a whole copy,
 * and texts are judged by a regular expression. It is slow and takes room; it is only compared with.
 */
final class PlainLoom {
    private static final int NO_SUCH = -1;
    private static final int BAD_VALUE = -2;
    private static final int NOT_POSSIBLE = -3;
    private static final int LIMIT = -4;
    private static final int BAD_TEXT = -5;
    private static final int NONE = -6;
    private static final String CARD = "0?1?2?3?4?5?L[0-3]R[01]";
    private static final Pattern LIST = Pattern.compile(CARD + "(;" + CARD + ")*");

    record Card(int frames, int left, int right) {
    }

    record Row(int colour, List<Integer> lifted) {
    }

    private static final class State {
        int[] colour = {0, 1, 2, 3, 4};
        int[] yarn = {20, 20, 20, 20, 20};
        /** 10 * the side + the box, or NONE. */
        int[] where = {NONE, NONE, NONE, NONE, NONE};
        int[] frame = {0, 1, 2, 3, 4, 5, 0, 1, 2, 3, 4, 5};
        int[] strength = {60, 60, 60, 60, 60, 60, 60, 60, 60, 60, 60, 60};
        List<Card> cards = new ArrayList<>();
        /** From the oldest row on. */
        List<Row> rows = new ArrayList<>();
        /** The states before the picks that can be taken back. */
        List<State> before = new ArrayList<>();
        int place;
        int speed = 1;
        int left;
        int right;
        int lifted;
        int picks;
        int reason;
        int number = NONE;
        int stops;

        State copy() {
            State s = new State();
            s.colour = colour.clone();
            s.yarn = yarn.clone();
            s.where = where.clone();
            s.frame = frame.clone();
            s.strength = strength.clone();
            s.cards = new ArrayList<>(cards);
            s.rows = new ArrayList<>(rows);
            s.before = new ArrayList<>(before);
            s.place = place;
            s.speed = speed;
            s.left = left;
            s.right = right;
            s.lifted = lifted;
            s.picks = picks;
            s.reason = reason;
            s.number = number;
            s.stops = stops;
            return s;
        }

        int at(int position) {
            for (int s = 0; s < 5; s++) {
                if (where[s] == position) {
                    return s;
                }
            }
            return NONE;
        }

        /** The reason and the number of the stop that the next pick would meet; null if none. */
        int[] stop(boolean all) {
            if (cards.isEmpty()) {
                return new int[] {1, NONE};
            }
            Card card = cards.get(place);
            for (int t = 0; all && t < 12; t++) {
                if (strength[t] == 0) {
                    return new int[] {2, t};
                }
            }
            if (all && Math.abs(card.left - left) > 4 - speed) {
                return new int[] {3, 0};
            }
            if (all && Math.abs(card.right - right) > 4 - speed) {
                return new int[] {3, 1};
            }
            int onLeft = at(card.left);
            int onRight = at(10 + card.right);
            if (onLeft >= 0 && onRight >= 0) {
                return new int[] {4, onLeft};
            }
            if (onLeft < 0 && onRight < 0) {
                return new int[] {5, NONE};
            }
            int flying = Math.max(onLeft, onRight);
            return yarn[flying] == 0 ? new int[] {6, flying} : null;
        }

        void pick() {
            before.add(copy());
            Card card = cards.get(place);
            int onLeft = at(card.left);
            int flying = onLeft >= 0 ? onLeft : at(10 + card.right);
            where[flying] = onLeft >= 0 ? 10 + card.right : card.left;
            yarn[flying]--;
            List<Integer> up = new ArrayList<>();
            for (int t = 0; t < 12; t++) {
                boolean was = (lifted & 1 << frame[t]) != 0;
                boolean is = (card.frames & 1 << frame[t]) != 0;
                strength[t] -= was == is ? 0 : 1;
                if (is) {
                    up.add(t);
                }
            }
            rows.add(new Row(colour[flying], up));
            while (rows.size() > 20) {
                rows.remove(0);
            }
            while (before.size() > rows.size()) {
                before.remove(0);
            }
            left = card.left;
            right = card.right;
            lifted = card.frames;
            place = place + 1 == cards.size() ? 0 : place + 1;
            picks++;
        }
    }

    private State now = new State();
    private final List<State> saved = new ArrayList<>();
    private String text = "";

    private void save(boolean isChange) {
        saved.add(now.copy());
        if (saved.size() > 6) {
            saved.remove(0);
        }
        if (isChange) {
            now.before.clear();
        }
    }

    private static boolean noBox(int side, int box) {
        return side < 0 || side > 1 || box < 0 || box > (side == 0 ? 3 : 1);
    }

    private static boolean out(int value, int least, int most) {
        return value < least || value > most;
    }

    int putIn(int shuttle, int side, int box) {
        if (out(shuttle, 0, 4) || noBox(side, box)) {
            return NO_SUCH;
        }
        if (now.where[shuttle] != NONE || now.at(10 * side + box) != NONE) {
            return NOT_POSSIBLE;
        }
        save(true);
        now.where[shuttle] = 10 * side + box;
        int all = 0;
        for (int where : now.where) {
            all += where == NONE ? 0 : 1;
        }
        return all;
    }

    int takeOut(int shuttle) {
        if (out(shuttle, 0, 4)) {
            return NO_SUCH;
        }
        if (now.where[shuttle] == NONE) {
            return NOT_POSSIBLE;
        }
        save(true);
        int was = now.where[shuttle];
        now.where[shuttle] = NONE;
        return was;
    }

    int wind(int shuttle, int colour, int yarn) {
        if (out(shuttle, 0, 4)) {
            return NO_SUCH;
        }
        if (out(colour, 0, 9) || out(yarn, 0, 99)) {
            return BAD_VALUE;
        }
        if (now.where[shuttle] != NONE) {
            return NOT_POSSIBLE;
        }
        save(true);
        int had = now.yarn[shuttle];
        now.yarn[shuttle] = yarn;
        now.colour[shuttle] = colour;
        return had;
    }

    int moveBoxes(int side, int box) {
        if (noBox(side, box)) {
            return NO_SUCH;
        }
        save(true);
        int was = side == 0 ? now.left : now.right;
        now.left = side == 0 ? box : now.left;
        now.right = side == 1 ? box : now.right;
        return was;
    }

    int draw(int thread, int frame) {
        if (out(thread, 0, 11) || out(frame, 0, 5)) {
            return NO_SUCH;
        }
        save(true);
        int was = now.frame[thread];
        now.frame[thread] = frame;
        return was;
    }

    int mend(int thread, int strength) {
        if (out(thread, 0, 11)) {
            return NO_SUCH;
        }
        if (out(strength, 0, 99)) {
            return BAD_VALUE;
        }
        save(true);
        int was = now.strength[thread];
        now.strength[thread] = strength;
        return was;
    }

    int setSpeed(int speed) {
        if (out(speed, 1, 3)) {
            return BAD_VALUE;
        }
        save(true);
        int was = now.speed;
        now.speed = speed;
        return was;
    }

    int addCard(int frames, int left, int right) {
        if (out(frames, 0, 63)) {
            return BAD_VALUE;
        }
        if (noBox(0, left) || noBox(1, right)) {
            return NO_SUCH;
        }
        if (now.cards.size() == 16) {
            return LIMIT;
        }
        save(true);
        now.cards.add(new Card(frames, left, right));
        return now.cards.size() - 1;
    }

    int removeCard(int card) {
        if (out(card, 0, now.cards.size() - 1)) {
            return NO_SUCH;
        }
        save(true);
        now.cards.remove(card);
        now.place -= card < now.place ? 1 : 0;
        now.place = now.place > now.cards.size() - 1 ? 0 : now.place;
        return now.cards.size();
    }

    int turnTo(int card) {
        if (out(card, 0, now.cards.size() - 1)) {
            return NO_SUCH;
        }
        save(true);
        int was = now.place;
        now.place = card;
        return was;
    }

    int weave(int picks) {
        if (out(picks, 1, 99)) {
            return BAD_VALUE;
        }
        save(false);
        int made = 0;
        int[] stop = null;
        while (made < picks && (stop = now.stop(true)) == null) {
            now.pick();
            made++;
        }
        if (stop != null) {
            now.reason = stop[0];
            now.number = stop[1];
            now.stops++;
        }
        return made;
    }

    int takeBack() {
        if (now.before.isEmpty()) {
            return NOT_POSSIBLE;
        }
        save(false);
        State back = now.before.get(now.before.size() - 1).copy();
        back.strength = now.strength;
        back.reason = now.reason;
        back.number = now.number;
        back.stops = now.stops;
        back.rows = new ArrayList<>(now.rows.subList(0, now.rows.size() - 1));
        back.before = new ArrayList<>(now.before.subList(0, now.before.size() - 1));
        now = back;
        return now.place;
    }

    int count(int what) {
        int[] counts = {now.cards.size(), now.place, now.speed, now.left, now.right, now.lifted, now.picks,
            now.rows.size(), now.before.size(), now.reason, now.number, now.stops};
        return out(what, 0, 11) ? BAD_VALUE : counts[what];
    }

    int shuttle(int shuttle, int what) {
        if (out(shuttle, 0, 4)) {
            return NO_SUCH;
        }
        int where = now.where[shuttle];
        int[] numbers = {now.colour[shuttle], now.yarn[shuttle],
            where == NONE ? NONE : where / 10, where == NONE ? NONE : where % 10};
        return out(what, 0, 3) ? BAD_VALUE : numbers[what];
    }

    int inBox(int side, int box) {
        return noBox(side, box) ? NO_SUCH : now.at(10 * side + box);
    }

    int thread(int thread, int what) {
        if (out(thread, 0, 11)) {
            return NO_SUCH;
        }
        int[] numbers = {now.frame[thread], now.strength[thread], now.lifted >> now.frame[thread] & 1};
        return out(what, 0, 2) ? BAD_VALUE : numbers[what];
    }

    int card(int card, int what) {
        if (out(card, 0, now.cards.size() - 1)) {
            return NO_SUCH;
        }
        Card it = now.cards.get(card);
        int threads = 0;
        for (int t = 11; t >= 0; t--) {
            threads = 2 * threads + (it.frames >> now.frame[t] & 1);
        }
        int[] numbers = {it.frames, it.left, it.right, threads};
        return out(what, 0, 3) ? BAD_VALUE : numbers[what];
    }

    int cloth(int row, int thread) {
        if (out(row, 0, now.rows.size() - 1) || out(thread, 0, 11)) {
            return NO_SUCH;
        }
        Row it = now.rows.get(now.rows.size() - 1 - row);
        return it.lifted.contains(thread) ? 100 + thread : it.colour;
    }

    int longestFloat(int thread) {
        if (out(thread, 0, 11)) {
            return NO_SUCH;
        }
        int longest = 0;
        for (int from = 0; from < now.rows.size(); from++) {
            boolean up = now.rows.get(from).lifted.contains(thread);
            int to = from;
            while (to < now.rows.size() && now.rows.get(to).lifted.contains(thread) == up) {
                to++;
            }
            longest = Math.max(longest, to - from);
        }
        return longest;
    }

    int whyNot() {
        int[] stop = now.stop(true);
        return stop == null ? 0 : stop[0];
    }

    int picksLeft() {
        State then = now.copy();
        int made = 0;
        while (made < 200 && then.stop(true) == null) {
            then.pick();
            then.before.clear();
            made++;
        }
        return made;
    }

    int firstEmpty() {
        State then = now.copy();
        for (int made = 0; made <= 999; made++) {
            int[] stop = then.stop(false);
            if (stop != null) {
                return stop[0] == 6 ? stop[1] : NONE;
            }
            then.pick();
            then.before.clear();
        }
        return NONE;
    }

    int repeats() {
        State then = now.copy();
        then.place = 0;
        for (int i = 0; i < now.cards.size(); i++) {
            if (then.stop(true) != null) {
                return 0;
            }
            then.pick();
        }
        return !now.cards.isEmpty() && java.util.Arrays.equals(now.where, then.where) ? 1 : 0;
    }

    int type(int code) {
        if (out(code, 33, 126)) {
            return BAD_VALUE;
        }
        if (text.length() == 80) {
            return LIMIT;
        }
        text += (char) code;
        return text.length();
    }

    int clearText() {
        int had = text.length();
        text = "";
        return had;
    }

    int syntaxError() {
        for (int i = 1; i <= text.length(); i++) {
            Matcher beginning = LIST.matcher(text.substring(0, i));
            if (!beginning.matches() && !beginning.hitEnd()) {
                return i - 1;
            }
        }
        return LIST.matcher(text).matches() ? NONE : text.length();
    }

    int readCards() {
        if (!LIST.matcher(text).matches()) {
            return BAD_TEXT;
        }
        String[] cards = text.split(";");
        if (now.cards.size() + cards.length > 16) {
            return LIMIT;
        }
        save(true);
        for (String card : cards) {
            int sign = card.indexOf('L');
            int frames = 0;
            for (int frame = 0; frame < 6; frame++) {
                frames += card.substring(0, sign).contains("" + frame) ? 1 << frame : 0;
            }
            now.cards.add(new Card(frames, card.charAt(sign + 1) - '0', card.charAt(sign + 3) - '0'));
        }
        text = "";
        return now.cards.size();
    }

    int undo() {
        if (saved.isEmpty()) {
            return NOT_POSSIBLE;
        }
        now = saved.remove(saved.size() - 1);
        return saved.size();
    }

    long digest() {
        List<Integer> values = new ArrayList<>();
        for (int what = 0; what < 12; what++) {
            values.add(count(what));
        }
        for (int i = 0; i < 20; i++) {
            values.add(shuttle(i / 4, i % 4));
        }
        for (int t = 0; t < 12; t++) {
            values.addAll(List.of(thread(t, 0), thread(t, 1), thread(t, 2), longestFloat(t)));
        }
        for (int i = 0; i < 4 * now.cards.size(); i++) {
            values.add(card(i / 4, i % 4));
        }
        for (int i = 0; i < 12 * now.rows.size(); i++) {
            values.add(cloth(i / 12, i % 12));
        }
        values.addAll(List.of(whyNot(), picksLeft(), firstEmpty(), repeats()));
        long hash = 334;
        for (int value : values) {
            hash = 31 * hash + value;
        }
        return hash;
    }
}
