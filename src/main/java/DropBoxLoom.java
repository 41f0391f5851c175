/**
 * A loom with drop boxes: shuttles that fly from a box on one side to a box on the other one,
 * cards that lift frames and choose boxes, the cloth that is woven, and forecasts of stops.
 *
 * All rows and objects are made by the constructor and used again, so that no call makes one:
 * a run of many calls lives in a small room.
 */
public final class DropBoxLoom {
    /** There is no such shuttle, box, frame, thread, card, row or side. */
    public static final int NO_SUCH = -1;
    /** Another argument is out of its range. */
    public static final int BAD_VALUE = -2;
    /** The call is not possible in the present state. */
    public static final int NOT_POSSIBLE = -3;
    /** A limit would be exceeded. */
    public static final int LIMIT = -4;
    /** The text is not a card list. */
    public static final int BAD_TEXT = -5;
    /** There is no such result. */
    public static final int NONE = -6;

    private static final int LEFT = 0;
    private static final int RIGHT = 1;
    private static final int SIDES = 2;
    private static final int LEFT_BOXES = 4;
    private static final int RIGHT_BOXES = 2;
    private static final int SHUTTLES = 5;
    private static final int COLOURS = 10;
    private static final int FIRST_YARN = 20;
    private static final int MOST_YARN = 99;
    private static final int FRAMES = 6;
    private static final int FRAME_SETS = 1 << FRAMES;
    private static final int THREADS = 12;
    private static final int FIRST_STRENGTH = 60;
    private static final int MOST_STRENGTH = 99;
    private static final int MOST_CARDS = 16;
    private static final int SLOWEST = 1;
    private static final int FASTEST = 3;
    private static final int PLACES_AND_SPEED = 4;
    private static final int MOST_ROWS = 20;
    private static final int MOST_PICKS_A_CALL = 99;
    private static final int MOST_PICKS_LEFT = 200;
    private static final int MOST_PICKS_UNTIL_EMPTY = 999;
    private static final int MOST_SAVED = 6;
    private static final int MOST_TEXT = 80;
    private static final int FIRST_CODE = 33;
    private static final int LAST_CODE = 126;
    private static final int COUNTS = 12;
    private static final int SHUTTLE_NUMBERS = 4;
    private static final int THREAD_NUMBERS = 3;
    private static final int CARD_NUMBERS = 4;
    private static final int LIFTED_ON_CLOTH = 100;
    private static final long FIRST_HASH = 334;

    private static final int NOT_STOPPED = 0;
    private static final int NO_CARD = 1;
    private static final int BROKEN_THREAD = 2;
    private static final int TOO_FAR = 3;
    private static final int BOTH_BOXES_FULL = 4;
    private static final int BOTH_BOXES_EMPTY = 5;
    private static final int NO_YARN = 6;

    private final Loom now = new Loom();
    private final Loom[] saved = new Loom[MOST_SAVED];
    private int savedStates = 0;
    private int latestSaved = 0;
    private final Gear forecast = new Gear();
    private final CardReader reader = new CardReader();
    private final char[] text = new char[MOST_TEXT];
    private int textLength = 0;

    public DropBoxLoom() {
        for (int slot = 0; slot < MOST_SAVED; slot++) {
            saved[slot] = new Loom();
        }
    }

    // ---- shuttles and boxes

    public int putIn(int shuttle, int side, int box) {
        if (!isShuttle(shuttle) || !isBox(side, box)) {
            return NO_SUCH;
        }
        Shuttles shuttles = now.gear.shuttles;
        if (!shuttles.isInDrawer(shuttle) || shuttles.findIn(side, box) != NONE) {
            return NOT_POSSIBLE;
        }
        saveBeforeChange();
        shuttles.place(shuttle, side, box);
        return shuttles.numberInBoxes();
    }

    public int takeOut(int shuttle) {
        if (!isShuttle(shuttle)) {
            return NO_SUCH;
        }
        Shuttles shuttles = now.gear.shuttles;
        if (shuttles.isInDrawer(shuttle)) {
            return NOT_POSSIBLE;
        }
        saveBeforeChange();
        int wasIn = 10 * shuttles.side[shuttle] + shuttles.box[shuttle];
        shuttles.place(shuttle, NONE, NONE);
        return wasIn;
    }

    public int wind(int shuttle, int colour, int yarn) {
        if (!isShuttle(shuttle)) {
            return NO_SUCH;
        }
        if (!isWithin(colour, 0, COLOURS - 1) || !isWithin(yarn, 0, MOST_YARN)) {
            return BAD_VALUE;
        }
        Shuttles shuttles = now.gear.shuttles;
        if (!shuttles.isInDrawer(shuttle)) {
            return NOT_POSSIBLE;
        }
        saveBeforeChange();
        int hadYarn = shuttles.yarn[shuttle];
        shuttles.colour[shuttle] = colour;
        shuttles.yarn[shuttle] = yarn;
        return hadYarn;
    }

    public int moveBoxes(int side, int box) {
        if (!isBox(side, box)) {
            return NO_SUCH;
        }
        saveBeforeChange();
        int wasAtRace = now.gear.atRace[side];
        now.gear.atRace[side] = box;
        return wasAtRace;
    }

    // ---- threads and speed

    public int draw(int thread, int frame) {
        if (!isThread(thread) || !isWithin(frame, 0, FRAMES - 1)) {
            return NO_SUCH;
        }
        saveBeforeChange();
        int wasIn = now.gear.threads.frame[thread];
        now.gear.threads.frame[thread] = frame;
        return wasIn;
    }

    public int mend(int thread, int strength) {
        if (!isThread(thread)) {
            return NO_SUCH;
        }
        if (!isWithin(strength, 0, MOST_STRENGTH)) {
            return BAD_VALUE;
        }
        saveBeforeChange();
        int had = now.gear.threads.strength[thread];
        now.gear.threads.strength[thread] = strength;
        return had;
    }

    public int setSpeed(int speed) {
        if (!isWithin(speed, SLOWEST, FASTEST)) {
            return BAD_VALUE;
        }
        saveBeforeChange();
        int previous = now.gear.speed;
        now.gear.speed = speed;
        return previous;
    }

    // ---- cards

    public int addCard(int frames, int left, int right) {
        if (!isWithin(frames, 0, FRAME_SETS - 1)) {
            return BAD_VALUE;
        }
        if (!isBox(LEFT, left) || !isBox(RIGHT, right)) {
            return NO_SUCH;
        }
        Chain chain = now.gear.chain;
        if (chain.cards >= MOST_CARDS) {
            return LIMIT;
        }
        saveBeforeChange();
        chain.append(frames, left, right);
        return chain.cards - 1;
    }

    public int removeCard(int card) {
        Chain chain = now.gear.chain;
        if (!chain.has(card)) {
            return NO_SUCH;
        }
        saveBeforeChange();
        chain.remove(card);
        return chain.cards;
    }

    public int turnTo(int card) {
        Chain chain = now.gear.chain;
        if (!chain.has(card)) {
            return NO_SUCH;
        }
        saveBeforeChange();
        int previous = chain.place;
        chain.place = card;
        return previous;
    }

    // ---- weaving

    public int weave(int picks) {
        if (!isWithin(picks, 1, MOST_PICKS_A_CALL)) {
            return BAD_VALUE;
        }
        save();
        for (int made = 0; made < picks; made++) {
            int reason = now.gear.reasonToStop();
            if (reason != NOT_STOPPED) {
                now.noteStop(reason);
                return made;
            }
            now.makePick();
        }
        return picks;
    }

    public int takeBack() {
        if (now.takeable <= 0) {
            return NOT_POSSIBLE;
        }
        save();
        now.takePickBack();
        return now.gear.chain.place;
    }

    // ---- asking

    public int count(int what) {
        Gear gear = now.gear;
        switch (what) {
            case 0: return gear.chain.cards;
            case 1: return gear.chain.place;
            case 2: return gear.speed;
            case 3: return gear.atRace[LEFT];
            case 4: return gear.atRace[RIGHT];
            case 5: return gear.lifted;
            case 6: return now.picks;
            case 7: return now.cloth.rows;
            case 8: return now.takeable;
            case 9: return now.stopReason;
            case 10: return now.stopNumber;
            case 11: return now.stops;
            default: return BAD_VALUE;
        }
    }

    public int shuttle(int shuttle, int what) {
        if (!isShuttle(shuttle)) {
            return NO_SUCH;
        }
        Shuttles shuttles = now.gear.shuttles;
        switch (what) {
            case 0: return shuttles.colour[shuttle];
            case 1: return shuttles.yarn[shuttle];
            case 2: return shuttles.side[shuttle];
            case 3: return shuttles.box[shuttle];
            default: return BAD_VALUE;
        }
    }

    public int inBox(int side, int box) {
        return isBox(side, box) ? now.gear.shuttles.findIn(side, box) : NO_SUCH;
    }

    public int thread(int thread, int what) {
        if (!isThread(thread)) {
            return NO_SUCH;
        }
        Threads threads = now.gear.threads;
        switch (what) {
            case 0: return threads.frame[thread];
            case 1: return threads.strength[thread];
            case 2: return contains(now.gear.lifted, threads.frame[thread]) ? 1 : 0;
            default: return BAD_VALUE;
        }
    }

    public int card(int card, int what) {
        Chain chain = now.gear.chain;
        if (!chain.has(card)) {
            return NO_SUCH;
        }
        switch (what) {
            case 0: return chain.framesOf(card);
            case 1: return chain.boxOf(card, LEFT);
            case 2: return chain.boxOf(card, RIGHT);
            case 3: return now.gear.threads.inFrames(chain.framesOf(card));
            default: return BAD_VALUE;
        }
    }

    public int cloth(int row, int thread) {
        if (!now.cloth.has(row) || !isThread(thread)) {
            return NO_SUCH;
        }
        return now.cloth.isLifted(row, thread) ? LIFTED_ON_CLOTH + thread : now.cloth.colourOf(row);
    }

    public int longestFloat(int thread) {
        return isThread(thread) ? now.cloth.longestFloatOf(thread) : NO_SUCH;
    }

    // ---- forecasts; they change nothing

    public int whyNot() {
        return now.gear.reasonToStop();
    }

    public int picksLeft() {
        forecast.copyFrom(now.gear);
        int made = 0;
        while (made < MOST_PICKS_LEFT && forecast.reasonToStop() == NOT_STOPPED) {
            forecast.makePick();
            made++;
        }
        return made;
    }

    public int firstEmpty() {
        forecast.copyFrom(now.gear);
        for (int made = 0; made < MOST_PICKS_UNTIL_EMPTY; made++) {
            int reason = forecast.reasonOfCardOrShuttle();
            if (reason != NOT_STOPPED) {
                return reason == NO_YARN ? forecast.flyingShuttle() : NONE;
            }
            forecast.makePick();
        }
        return NONE;
    }

    public int repeats() {
        int cards = now.gear.chain.cards;
        if (cards == 0) {
            return 0;
        }
        forecast.copyFrom(now.gear);
        forecast.chain.place = 0;
        for (int card = 0; card < cards; card++) {
            if (forecast.reasonToStop() != NOT_STOPPED) {
                return 0;
            }
            forecast.makePick();
        }
        return forecast.shuttles.standAs(now.gear.shuttles) ? 1 : 0;
    }

    // ---- text

    public int type(int code) {
        if (!isWithin(code, FIRST_CODE, LAST_CODE)) {
            return BAD_VALUE;
        }
        if (textLength < 0 || textLength >= MOST_TEXT) {
            return LIMIT;
        }
        text[textLength] = (char) code;
        textLength++;
        return textLength;
    }

    public int clearText() {
        int previous = textLength;
        textLength = 0;
        return previous;
    }

    public int syntaxError() {
        reader.start();
        for (int i = 0; i < textLength && i < MOST_TEXT; i++) {
            if (!reader.accepts(text[i])) {
                return i;
            }
        }
        return reader.isBehindCard() ? NONE : textLength;
    }

    public int readCards() {
        if (syntaxError() != NONE) {
            return BAD_TEXT;
        }
        Chain chain = now.gear.chain;
        if (chain.cards + cardsInText() > MOST_CARDS) {
            return LIMIT;
        }
        saveBeforeChange();
        reader.start();
        for (int i = 0; i < textLength && i < MOST_TEXT; i++) {
            if (reader.accepts(text[i]) && reader.isBehindCard()) {
                chain.append(reader.frames, reader.left, reader.right);
            }
        }
        textLength = 0;
        return chain.cards;
    }

    // ---- undo

    public int undo() {
        Loom before = saved[Math.floorMod(latestSaved, MOST_SAVED)];
        if (savedStates <= 0 || before == null) {
            return NOT_POSSIBLE;
        }
        now.copyFrom(before);
        latestSaved = Math.floorMod(latestSaved - 1, MOST_SAVED);
        savedStates--;
        return savedStates;
    }

    public long digest() {
        long hash = FIRST_HASH;
        for (int what = 0; what < COUNTS; what++) {
            hash = 31 * hash + count(what);
        }
        hash = hashShuttles(hash);
        hash = hashThreads(hash);
        hash = hashCards(hash);
        hash = hashCloth(hash);
        hash = 31 * hash + whyNot();
        hash = 31 * hash + picksLeft();
        hash = 31 * hash + firstEmpty();
        return 31 * hash + repeats();
    }

    private long hashShuttles(long before) {
        long hash = before;
        for (int s = 0; s < SHUTTLES; s++) {
            for (int what = 0; what < SHUTTLE_NUMBERS; what++) {
                hash = 31 * hash + shuttle(s, what);
            }
        }
        return hash;
    }

    private long hashThreads(long before) {
        long hash = before;
        for (int t = 0; t < THREADS; t++) {
            for (int what = 0; what < THREAD_NUMBERS; what++) {
                hash = 31 * hash + thread(t, what);
            }
            hash = 31 * hash + longestFloat(t);
        }
        return hash;
    }

    private long hashCards(long before) {
        long hash = before;
        for (int c = 0; c < now.gear.chain.cards; c++) {
            for (int what = 0; what < CARD_NUMBERS; what++) {
                hash = 31 * hash + card(c, what);
            }
        }
        return hash;
    }

    private long hashCloth(long before) {
        long hash = before;
        for (int row = 0; row < now.cloth.rows; row++) {
            for (int t = 0; t < THREADS; t++) {
                hash = 31 * hash + cloth(row, t);
            }
        }
        return hash;
    }

    /** Any call but weave() and takeBack() that changes the loom ends the taking back of picks. */
    private void saveBeforeChange() {
        save();
        now.takeable = 0;
    }

    private void save() {
        latestSaved = Math.floorMod(latestSaved + 1, MOST_SAVED);
        Loom room = saved[latestSaved];
        if (room != null) {
            room.copyFrom(now);
        }
        if (savedStates < MOST_SAVED) {
            savedStates++;
        }
    }

    private int cardsInText() {
        int cards = 1;
        for (int i = 0; i < textLength && i < MOST_TEXT; i++) {
            if (text[i] == ';') {
                cards++;
            }
        }
        return cards;
    }

    private static boolean isWithin(int value, int least, int most) {
        return value >= least && value <= most;
    }

    private static boolean isShuttle(int shuttle) {
        return isWithin(shuttle, 0, SHUTTLES - 1);
    }

    private static boolean isThread(int thread) {
        return isWithin(thread, 0, THREADS - 1);
    }

    private static boolean isBox(int side, int box) {
        return side == LEFT && isWithin(box, 0, LEFT_BOXES - 1)
                || side == RIGHT && isWithin(box, 0, RIGHT_BOXES - 1);
    }

    private static boolean contains(int set, int member) {
        return (set >> member & 1) == 1;
    }

    /** The shuttles, each in a box or, with NONE as its side and box, in the drawer. */
    private static final class Shuttles {
        final int[] colour = new int[SHUTTLES];
        final int[] yarn = new int[SHUTTLES];
        final int[] side = new int[SHUTTLES];
        final int[] box = new int[SHUTTLES];

        Shuttles() {
            for (int s = 0; s < SHUTTLES; s++) {
                colour[s] = s;
                yarn[s] = FIRST_YARN;
                side[s] = NONE;
                box[s] = NONE;
            }
        }

        void copyFrom(Shuttles other) {
            System.arraycopy(other.colour, 0, colour, 0, SHUTTLES);
            System.arraycopy(other.yarn, 0, yarn, 0, SHUTTLES);
            System.arraycopy(other.side, 0, side, 0, SHUTTLES);
            System.arraycopy(other.box, 0, box, 0, SHUTTLES);
        }

        boolean isInDrawer(int shuttle) {
            return isShuttle(shuttle) && side[shuttle] == NONE;
        }

        boolean isOnLeft(int shuttle) {
            return isShuttle(shuttle) && side[shuttle] == LEFT;
        }

        boolean hasYarn(int shuttle) {
            return isShuttle(shuttle) && yarn[shuttle] > 0;
        }

        int colourOf(int shuttle) {
            return isShuttle(shuttle) ? colour[shuttle] : NONE;
        }

        int findIn(int aSide, int aBox) {
            for (int s = 0; s < SHUTTLES; s++) {
                if (side[s] == aSide && box[s] == aBox) {
                    return s;
                }
            }
            return NONE;
        }

        int numberInBoxes() {
            int number = 0;
            for (int s = 0; s < SHUTTLES; s++) {
                if (side[s] != NONE) {
                    number++;
                }
            }
            return number;
        }

        void place(int shuttle, int newSide, int newBox) {
            if (isShuttle(shuttle)) {
                side[shuttle] = newSide;
                box[shuttle] = newBox;
            }
        }

        void addYarn(int shuttle, int more) {
            if (isShuttle(shuttle)) {
                yarn[shuttle] += more;
            }
        }

        boolean standAs(Shuttles other) {
            for (int s = 0; s < SHUTTLES; s++) {
                if (side[s] != other.side[s] || box[s] != other.box[s]) {
                    return false;
                }
            }
            return true;
        }
    }

    /** The threads: the frame that each one is drawn into, and the strength that is left to it. */
    private static final class Threads {
        final int[] frame = new int[THREADS];
        final int[] strength = new int[THREADS];

        Threads() {
            for (int t = 0; t < THREADS; t++) {
                frame[t] = t % FRAMES;
                strength[t] = FIRST_STRENGTH;
            }
        }

        void copyFrom(Threads other) {
            System.arraycopy(other.frame, 0, frame, 0, THREADS);
            System.arraycopy(other.strength, 0, strength, 0, THREADS);
        }

        int firstBroken() {
            for (int t = 0; t < THREADS; t++) {
                if (strength[t] == 0) {
                    return t;
                }
            }
            return NONE;
        }

        int inFrames(int frames) {
            int set = 0;
            for (int t = 0; t < THREADS; t++) {
                if (contains(frames, frame[t])) {
                    set |= 1 << t;
                }
            }
            return set;
        }

        void wearOut(int movedFrames) {
            for (int t = 0; t < THREADS; t++) {
                if (contains(movedFrames, frame[t])) {
                    strength[t]--;
                }
            }
        }
    }

    /** The chain of cards and its place, the card that comes next. */
    private static final class Chain {
        final int[] frames = new int[MOST_CARDS];
        final int[] left = new int[MOST_CARDS];
        final int[] right = new int[MOST_CARDS];
        int cards = 0;
        int place = 0;

        void copyFrom(Chain other) {
            System.arraycopy(other.frames, 0, frames, 0, MOST_CARDS);
            System.arraycopy(other.left, 0, left, 0, MOST_CARDS);
            System.arraycopy(other.right, 0, right, 0, MOST_CARDS);
            cards = other.cards;
            place = other.place;
        }

        boolean has(int card) {
            return card >= 0 && card < cards && card < MOST_CARDS;
        }

        int framesOf(int card) {
            return has(card) ? frames[card] : 0;
        }

        int boxOf(int card, int side) {
            if (!has(card)) {
                return NONE;
            }
            return side == LEFT ? left[card] : right[card];
        }

        void append(int newFrames, int newLeft, int newRight) {
            if (cards >= 0 && cards < MOST_CARDS) {
                frames[cards] = newFrames;
                left[cards] = newLeft;
                right[cards] = newRight;
                cards++;
            }
        }

        void remove(int card) {
            if (!has(card)) {
                return;
            }
            for (int c = card; c + 1 < cards && c + 1 < MOST_CARDS; c++) {
                frames[c] = frames[c + 1];
                left[c] = left[c + 1];
                right[c] = right[c + 1];
            }
            cards--;
            if (card < place) {
                place--;
            }
            startAgainBehindLast();
        }

        void goOn() {
            place++;
            startAgainBehindLast();
        }

        private void startAgainBehindLast() {
            if (place >= cards) {
                place = 0;
            }
        }
    }

    /** All that stops a pick or moves with it; forecasts let a copy of this run, without cloth. */
    private static final class Gear {
        final Shuttles shuttles = new Shuttles();
        final Threads threads = new Threads();
        final Chain chain = new Chain();
        final int[] atRace = new int[SIDES];
        int speed = SLOWEST;
        int lifted = 0;

        void copyFrom(Gear other) {
            shuttles.copyFrom(other.shuttles);
            threads.copyFrom(other.threads);
            chain.copyFrom(other.chain);
            System.arraycopy(other.atRace, 0, atRace, 0, SIDES);
            speed = other.speed;
            lifted = other.lifted;
        }

        int reasonToStop() {
            if (!chain.has(chain.place)) {
                return NO_CARD;
            }
            if (threads.firstBroken() != NONE) {
                return BROKEN_THREAD;
            }
            if (sideTooFar() != NONE) {
                return TOO_FAR;
            }
            return reasonOfCardOrShuttle();
        }

        /** The reasons that are left when broken threads and boxes too far away are left out. */
        int reasonOfCardOrShuttle() {
            if (!chain.has(chain.place)) {
                return NO_CARD;
            }
            int onLeft = shuttleOn(LEFT);
            int onRight = shuttleOn(RIGHT);
            if (onLeft != NONE && onRight != NONE) {
                return BOTH_BOXES_FULL;
            }
            if (onLeft == NONE && onRight == NONE) {
                return BOTH_BOXES_EMPTY;
            }
            return shuttles.hasYarn(onLeft != NONE ? onLeft : onRight) ? NOT_STOPPED : NO_YARN;
        }

        int numberTold(int reason) {
            switch (reason) {
                case BROKEN_THREAD: return threads.firstBroken();
                case TOO_FAR: return sideTooFar();
                case BOTH_BOXES_FULL: return shuttleOn(LEFT);
                case NO_YARN: return flyingShuttle();
                default: return NONE;
            }
        }

        int flyingShuttle() {
            int onLeft = shuttleOn(LEFT);
            return onLeft != NONE ? onLeft : shuttleOn(RIGHT);
        }

        int frames() {
            return chain.framesOf(chain.place);
        }

        void makePick() {
            int flying = flyingShuttle();
            moveRaces(chain.boxOf(chain.place, LEFT), chain.boxOf(chain.place, RIGHT));
            threads.wearOut(lifted ^ frames());
            lifted = frames();
            fly(flying, -1);
            chain.goOn();
        }

        /** A flight that is taken back is a flight the other way that gives the yarn again. */
        void fly(int shuttle, int moreYarn) {
            int to = shuttles.isOnLeft(shuttle) ? RIGHT : LEFT;
            shuttles.place(shuttle, to, atRace[to]);
            shuttles.addYarn(shuttle, moreYarn);
        }

        void moveRaces(int left, int right) {
            atRace[LEFT] = left;
            atRace[RIGHT] = right;
        }

        private int shuttleOn(int side) {
            return shuttles.findIn(side, chain.boxOf(chain.place, side));
        }

        private int sideTooFar() {
            for (int side = 0; side < SIDES; side++) {
                int places = Math.abs(atRace[side] - chain.boxOf(chain.place, side));
                if (places > PLACES_AND_SPEED - speed) {
                    return side;
                }
            }
            return NONE;
        }
    }

    /** The latest rows, each with what its pick changed, so that it can be taken back. */
    private static final class Cloth {
        final int[] colour = new int[MOST_ROWS];
        final int[] threads = new int[MOST_ROWS];
        final int[] flown = new int[MOST_ROWS];
        final int[] place = new int[MOST_ROWS];
        final int[] lifted = new int[MOST_ROWS];
        final int[] left = new int[MOST_ROWS];
        final int[] right = new int[MOST_ROWS];
        int rows = 0;
        private int latest = 0;

        void copyFrom(Cloth other) {
            System.arraycopy(other.colour, 0, colour, 0, MOST_ROWS);
            System.arraycopy(other.threads, 0, threads, 0, MOST_ROWS);
            System.arraycopy(other.flown, 0, flown, 0, MOST_ROWS);
            System.arraycopy(other.place, 0, place, 0, MOST_ROWS);
            System.arraycopy(other.lifted, 0, lifted, 0, MOST_ROWS);
            System.arraycopy(other.left, 0, left, 0, MOST_ROWS);
            System.arraycopy(other.right, 0, right, 0, MOST_ROWS);
            rows = other.rows;
            latest = other.latest;
        }

        boolean has(int row) {
            return row >= 0 && row < rows;
        }

        int colourOf(int row) {
            return colour[slotOf(row)];
        }

        boolean isLifted(int row, int thread) {
            return contains(threads[slotOf(row)], thread);
        }

        int longestFloatOf(int thread) {
            int longest = 0;
            int length = 0;
            for (int row = 0; row < rows; row++) {
                boolean goesOn = row > 0 && isLifted(row, thread) == isLifted(row - 1, thread);
                length = goesOn ? length + 1 : 1;
                longest = Math.max(longest, length);
            }
            return longest;
        }

        /** Called before the pick is made: the gear still stands as it must stand again. */
        void addRowOf(Gear gear) {
            latest = slotOf(-1);
            int slot = slotOf(0);
            flown[slot] = gear.flyingShuttle();
            colour[slot] = gear.shuttles.colourOf(flown[slot]);
            threads[slot] = gear.threads.inFrames(gear.frames());
            place[slot] = gear.chain.place;
            lifted[slot] = gear.lifted;
            left[slot] = gear.atRace[LEFT];
            right[slot] = gear.atRace[RIGHT];
            if (rows < MOST_ROWS) {
                rows++;
            }
        }

        /**
         * The shuttle flies before the boxes move, for it goes back into the box that it left.
         * The strengths stay: a thread that has worn out does not get better.
         */
        void takeRowBack(Gear gear) {
            int slot = slotOf(0);
            gear.fly(flown[slot], 1);
            gear.moveRaces(left[slot], right[slot]);
            gear.lifted = lifted[slot];
            gear.chain.place = place[slot];
            latest = slotOf(1);
            rows--;
        }

        /** The rows lie in a ring, so that a new one takes the place of the oldest one. */
        private int slotOf(int row) {
            return Math.floorMod(latest - row, MOST_ROWS);
        }
    }

    /** The state: all that undo() restores. */
    private static final class Loom {
        final Gear gear = new Gear();
        final Cloth cloth = new Cloth();
        int picks = 0;
        int takeable = 0;
        int stopReason = NOT_STOPPED;
        int stopNumber = NONE;
        int stops = 0;

        void copyFrom(Loom other) {
            gear.copyFrom(other.gear);
            cloth.copyFrom(other.cloth);
            picks = other.picks;
            takeable = other.takeable;
            stopReason = other.stopReason;
            stopNumber = other.stopNumber;
            stops = other.stops;
        }

        void makePick() {
            cloth.addRowOf(gear);
            gear.makePick();
            picks++;
            // A pick whose row has left the cloth cannot be taken back any more.
            takeable = Math.min(takeable + 1, MOST_ROWS);
        }

        void takePickBack() {
            cloth.takeRowBack(gear);
            picks--;
            takeable--;
        }

        void noteStop(int reason) {
            stopReason = reason;
            stopNumber = gear.numberTold(reason);
            stops++;
        }
    }

    /** Reads a card list sign by sign, and accepts a sign only if some card list goes on with it. */
    private static final class CardReader {
        private static final int AT_FRAMES = 0;
        private static final int AT_LEFT_BOX = 1;
        private static final int AT_RIGHT_SIGN = 2;
        private static final int AT_RIGHT_BOX = 3;
        private static final int BEHIND_CARD = 4;

        int frames = 0;
        int left = 0;
        int right = 0;
        private int step = AT_FRAMES;
        private int lowestFrame = 0;

        void start() {
            step = AT_FRAMES;
            frames = 0;
            lowestFrame = 0;
        }

        boolean isBehindCard() {
            return step == BEHIND_CARD;
        }

        /** After a sign that is not accepted only start() is to be called. */
        boolean accepts(char sign) {
            switch (step) {
                case AT_FRAMES: return sign == 'L' ? goTo(AT_LEFT_BOX) : acceptsFrame(sign - '0');
                case AT_LEFT_BOX: return acceptsLeft(sign - '0');
                case AT_RIGHT_SIGN: return sign == 'R' && goTo(AT_RIGHT_BOX);
                case AT_RIGHT_BOX: return acceptsRight(sign - '0');
                default: return sign == ';' && startNext();
            }
        }

        private boolean acceptsFrame(int frame) {
            if (!isWithin(frame, lowestFrame, FRAMES - 1)) {
                return false;
            }
            frames |= 1 << frame;
            lowestFrame = frame + 1;
            return true;
        }

        private boolean acceptsLeft(int box) {
            left = box;
            return isBox(LEFT, box) && goTo(AT_RIGHT_SIGN);
        }

        private boolean acceptsRight(int box) {
            right = box;
            return isBox(RIGHT, box) && goTo(BEHIND_CARD);
        }

        private boolean startNext() {
            start();
            return true;
        }

        private boolean goTo(int nextStep) {
            step = nextStep;
            return true;
        }
    }
}
