import java.util.Locale;

/** Compares answers with those that are due, and counts. */
final class Check {
    private static int compared = 0;
    private static int wrong = 0;

    private Check() {
    }

    static void due(String call, long got, long want) {
        compared++;
        if (got != want) {
            wrong++;
            System.out.println(call + " answered " + got + ", due is " + want);
        }
    }

    static void holds(String what, boolean itDoes) {
        due(what, itDoes ? 1 : 0, 1);
    }

    static int compared() {
        return compared;
    }

    static int wrong() {
        return wrong;
    }

    /** Asserts that a call answers as is due and changes nothing that can be asked. */
    static void refused(DropBoxLoom loom, String call, java.util.function.IntSupplier made, int want) {
        long before = loom.digest();
        due(call, made.getAsInt(), want);
        due("digest after " + call, loom.digest(), before);
    }

    static void typeText(DropBoxLoom loom, String text) {
        for (int i = 0; i < text.length(); i++) {
            loom.type(text.charAt(i));
        }
    }

    /** The saved states that a loom holds; this takes them all back. */
    static int savedStates(DropBoxLoom loom) {
        int saved = 0;
        while (saved < 1000 && loom.undo() >= 0) {
            saved++;
        }
        return saved;
    }

    static void end(String test) {
        System.out.println(String.format(Locale.ROOT, "%s: %d compared, %d wrong", test, compared, wrong));
        if (wrong != 0 || compared == 0) {
            System.exit(1);
        }
    }
}
