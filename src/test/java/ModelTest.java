import java.util.Map;
import java.util.Random;
import java.util.TreeMap;

/** Long runs of calls on a DropBoxLoom and on a PlainLoom, whose answers must be the same. */
public final class ModelTest {
    private static final int RUNS = 600;
    /** Some few under the 512 calls that an object is used for, for one step can type several signs. */
    private static final int CALLS = 500;
    private static final int[] EXTREMES = {
        Integer.MIN_VALUE, Integer.MIN_VALUE + 1, -1000, -7, -6, -5, -2, -1, 0, 1, 2, 3, 4, 5, 6, 11, 12, 15, 16,
        19, 20, 63, 64, 99, 100, 126, 127, 1000, 65536, Integer.MAX_VALUE - 1, Integer.MAX_VALUE};

    /** How often something was answered, so that no promise is compared by errors alone. */
    private static final Map<String, Integer> met = new TreeMap<>();

    private final Random random;
    private final DropBoxLoom loom = new DropBoxLoom();
    private final PlainLoom plain = new PlainLoom();
    private final StringBuilder calls = new StringBuilder();
    private int made = 0;
    /** In how many calls of a hundred an argument is any number at all. */
    private final int wildness;

    private ModelTest(int run) {
        random = new Random(run);
        wildness = run % 4 == 0 ? 60 : 3;
    }

    public static void main(String[] args) {
        for (int run = 0; run < RUNS; run++) {
            if (!new ModelTest(run).runs(run)) {
                break;
            }
        }
        String[] wanted = {"reason 0", "reason 1", "reason 2", "reason 3", "reason 4", "reason 5", "reason 6",
            "takeBack", "repeats", "picksLeft 200", "firstEmpty", "readCards", "undo", "full cloth", "LIMIT"};
        for (String what : wanted) {
            Check.holds("often enough: " + what + " in " + met, met.getOrDefault(what, 0) >= 20);
        }
        Check.end("ModelTest");
    }

    private boolean runs(int run) {
        if (run % 3 != 0) {
            prepare(run);
        }
        for (int step = 0; made < CALLS; step++) {
            long[] answers = step % 8 == 7 ? digests() : anyCall();
            if (answers[0] != answers[1]) {
                Check.due("run " + run + ": " + calls, answers[0], answers[1]);
                return false;
            }
            Check.due("", 0, 0);
        }
        return true;
    }

    /** A loom that can weave for long, for looms made by chance alone stop soon. */
    private void prepare(int run) {
        int shuttles = 1 + random.nextInt(4);
        for (int s = 0; s < shuttles; s++) {
            both("wind", loom.wind(s, s, 99), plain.wind(s, s, 99));
            both("putIn", loom.putIn(s, 0, s), plain.putIn(s, 0, s));
        }
        int pairs = 1 + random.nextInt(6);
        for (int i = 0; i < pairs; i++) {
            int left = random.nextInt(shuttles);
            int right = random.nextInt(2);
            int frames = run % 2 == 0 ? 0 : random.nextInt(64);
            both("addCard", loom.addCard(frames, left, right), plain.addCard(frames, left, right));
            frames = run % 2 == 0 ? 0 : random.nextInt(64);
            both("addCard", loom.addCard(frames, left, right), plain.addCard(frames, left, right));
        }
    }

    private long[] both(String name, long answer, long due, int... arguments) {
        made++;
        calls.append(name).append(java.util.Arrays.toString(arguments)).append(' ');
        if (due >= 0 && (name.equals("takeBack") || name.equals("readCards") || name.equals("undo"))) {
            meet(name);
        }
        if (due == DropBoxLoom.LIMIT) {
            meet("LIMIT");
        }
        return new long[] {answer, due};
    }

    private static void meet(String what) {
        met.merge(what, 1, Integer::sum);
    }

    private long[] digests() {
        meet("reason " + plain.count(9));
        if (plain.repeats() == 1) {
            meet("repeats");
        }
        if (plain.picksLeft() == 200) {
            meet("picksLeft 200");
        }
        if (plain.firstEmpty() >= 0) {
            meet("firstEmpty");
        }
        if (plain.count(7) == 20) {
            meet("full cloth");
        }
        return both("digest", loom.digest(), plain.digest());
    }

    private int argument(int usual) {
        if (random.nextInt(100) < wildness) {
            return random.nextBoolean() ? EXTREMES[random.nextInt(EXTREMES.length)] : random.nextInt();
        }
        return random.nextInt(usual);
    }

    private long[] anyCall() {
        int chance = random.nextInt(100);
        if (chance < 30) {
            return weavingCall();
        }
        if (chance < 45) {
            return textCall();
        }
        if (chance < 60) {
            return changingCall();
        }
        if (chance < 70) {
            return cardCall();
        }
        return askingCall();
    }

    private long[] weavingCall() {
        int chance = random.nextInt(10);
        if (chance < 5) {
            int picks = argument(random.nextBoolean() ? 4 : 60);
            return both("weave", loom.weave(picks), plain.weave(picks), picks);
        }
        if (chance < 8) {
            return both("takeBack", loom.takeBack(), plain.takeBack());
        }
        return both("undo", loom.undo(), plain.undo());
    }

    private long[] changingCall() {
        int a = argument(5);
        int b = argument(2);
        int c = argument(b == 1 ? 2 : 4);
        int thread = argument(12);
        int strength = argument(100);
        switch (random.nextInt(7)) {
            case 0: return both("putIn", loom.putIn(a, b, c), plain.putIn(a, b, c), a, b, c);
            case 1: return both("takeOut", loom.takeOut(a), plain.takeOut(a), a);
            case 2: return both("wind", loom.wind(a, thread, strength), plain.wind(a, thread, strength),
                    a, thread, strength);
            case 3: return both("moveBoxes", loom.moveBoxes(b, c), plain.moveBoxes(b, c), b, c);
            case 4: return both("draw", loom.draw(thread, a), plain.draw(thread, a), thread, a);
            case 5: return both("mend", loom.mend(thread, strength), plain.mend(thread, strength),
                    thread, strength);
            default: return both("setSpeed", loom.setSpeed(a), plain.setSpeed(a), a);
        }
    }

    private long[] cardCall() {
        int card = argument(17);
        int left = argument(4);
        int right = argument(2);
        int frames = argument(64);
        switch (random.nextInt(4)) {
            case 0: return both("removeCard", loom.removeCard(card), plain.removeCard(card), card);
            case 1: return both("turnTo", loom.turnTo(card), plain.turnTo(card), card);
            default: return both("addCard", loom.addCard(frames, left, right),
                    plain.addCard(frames, left, right), frames, left, right);
        }
    }

    private long[] textCall() {
        int chance = random.nextInt(20);
        if (chance == 0) {
            return both("clearText", loom.clearText(), plain.clearText());
        }
        if (chance < 4) {
            return both("readCards", loom.readCards(), plain.readCards());
        }
        if (chance < 6) {
            return both("syntaxError", loom.syntaxError(), plain.syntaxError());
        }
        if (chance < 9) {
            int code = argument(130);
            return both("type", loom.type(code), plain.type(code), code);
        }
        return typeCards();
    }

    /** Types some signs that are likely to go on with a card list. */
    private long[] typeCards() {
        int error = plain.syntaxError();
        String text = "" + (error == DropBoxLoom.NONE ? ";" : "");
        String[] parts = {"L0R0", "35L2R1", "0L3R0", "1", "L", "R1", "024", "L1R0;L0R1"};
        text += parts[random.nextInt(parts.length)];
        long[] answers = {0, 0};
        for (int i = 0; i < text.length() && answers[0] == answers[1]; i++) {
            int code = text.charAt(i);
            answers = both("type", loom.type(code), plain.type(code), code);
        }
        return answers;
    }

    private long[] askingCall() {
        int a = argument(22);
        int b = argument(13);
        int c = argument(5);
        switch (random.nextInt(12)) {
            case 0: return both("count", loom.count(b), plain.count(b), b);
            case 1: return both("shuttle", loom.shuttle(c, b), plain.shuttle(c, b), c, b);
            case 2: return both("inBox", loom.inBox(a % 3, c), plain.inBox(a % 3, c), a % 3, c);
            case 3: return both("thread", loom.thread(b, c), plain.thread(b, c), b, c);
            case 4: return both("card", loom.card(a, c), plain.card(a, c), a, c);
            case 5: return both("cloth", loom.cloth(a, b), plain.cloth(a, b), a, b);
            case 6: return both("longestFloat", loom.longestFloat(b), plain.longestFloat(b), b);
            case 7: return both("whyNot", loom.whyNot(), plain.whyNot());
            case 8: return both("picksLeft", loom.picksLeft(), plain.picksLeft());
            case 9: return both("firstEmpty", loom.firstEmpty(), plain.firstEmpty());
            case 10: return both("repeats", loom.repeats(), plain.repeats());
            default: return both("syntaxError", loom.syntaxError(), plain.syntaxError());
        }
    }
}
