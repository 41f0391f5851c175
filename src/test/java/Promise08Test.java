/** Promise 8: setSpeed. */
public final class Promise08Test {
    public static void main(String[] args) {
        Promise.test(Promise08Test.class);
    }

    @Sentence({"`speed`: 1 to 3", "Changes the speed."})
    static void takesTheSpeeds1To3() {
        DropBoxLoom x = new DropBoxLoom();
        int[] speeds = {3, 2, 1};
        for (int speed : speeds) {
            x.setSpeed(speed);
            Check.due("speed", x.count(2), speed);
        }
    }

    @Sentence("Returns the previous speed;")
    static void returnsTheSpeeds1To3() {
        DropBoxLoom x = new DropBoxLoom();
        Check.due("setSpeed(3)", x.setSpeed(3), 1);
        Check.due("setSpeed(2)", x.setSpeed(2), 3);
        Check.due("setSpeed(1)", x.setSpeed(1), 2);
        Check.due("setSpeed(1) again", x.setSpeed(1), 1);
    }

    @Sentence("The speed is 1, 2 or 3, at first 1.")
    static void isNeverLessThan1OrMoreThan3() {
        for (int speed = -1; speed <= 5; speed++) {
            DropBoxLoom x = new DropBoxLoom();
            x.setSpeed(speed);
            Check.due("speed after setSpeed(" + speed + ")", x.count(2), speed == 2 || speed == 3 ? speed : 1);
        }
    }

    @Sentence("BAD_VALUE if speed is out of range.")
    static void badValueForTheSpeed() {
        Calls.refusedOutside(1, 3, DropBoxLoom.BAD_VALUE, DropBoxLoom::setSpeed);
        Calls.refused("setSpeed(-1)", x -> x.setSpeed(-1), DropBoxLoom.BAD_VALUE);
    }

    @Sentence("Undoable.")
    static void savesTheStateBefore() {
        Calls.undoable("setSpeed", x -> x.setSpeed(3));
    }

    @Sentence("(Each call of such another method that returns no error code counts as a change here.)")
    static void endsTakingBackEvenIfNothingBecomesOther() {
        Calls.endsTakingBack("setSpeed as it is", x -> x.setSpeed(1));
    }
}
