import java.lang.reflect.Constructor;
import java.lang.reflect.Field;
import java.lang.reflect.Method;
import java.lang.reflect.Modifier;
import java.util.Set;
import java.util.TreeSet;

/** The public face: the class, its constants and its methods, and nothing else. */
public final class FaceTest {
    private static final String[] METHODS = {
        "int putIn(int,int,int)", "int takeOut(int)", "int wind(int,int,int)", "int moveBoxes(int,int)",
        "int draw(int,int)", "int mend(int,int)", "int setSpeed(int)", "int addCard(int,int,int)",
        "int removeCard(int)", "int turnTo(int)", "int weave(int)", "int takeBack()", "int count(int)",
        "int shuttle(int,int)", "int inBox(int,int)", "int thread(int,int)", "int card(int,int)",
        "int cloth(int,int)", "int longestFloat(int)", "int whyNot()", "int picksLeft()",
        "int firstEmpty()", "int repeats()", "int type(int)", "int clearText()", "int syntaxError()",
        "int readCards()", "int undo()", "long digest()"};
    private static final String[] CONSTANTS = {
        "NO_SUCH", "BAD_VALUE", "NOT_POSSIBLE", "LIMIT", "BAD_TEXT", "NONE"};

    public static void main(String[] args) throws ReflectiveOperationException {
        Class<?> face = DropBoxLoom.class;
        Check.holds("class is public and final",
                Modifier.isPublic(face.getModifiers()) && Modifier.isFinal(face.getModifiers()));
        checkConstructors(face);
        checkMethods(face);
        checkConstants(face);
        Check.end("FaceTest");
    }

    private static void checkConstructors(Class<?> face) {
        Constructor<?>[] constructors = face.getDeclaredConstructors();
        Check.due("number of constructors", constructors.length, 1);
        Check.holds("constructor is public and takes nothing",
                Modifier.isPublic(constructors[0].getModifiers()) && constructors[0].getParameterCount() == 0);
    }

    private static void checkMethods(Class<?> face) {
        Set<String> wanted = new TreeSet<>(Set.of(METHODS));
        Set<String> names = new TreeSet<>();
        Set<String> found = new TreeSet<>();
        for (Method method : face.getDeclaredMethods()) {
            if (!Modifier.isPrivate(method.getModifiers())) {
                found.add(signature(method));
                names.add(method.getName());
                Check.holds(method.getName() + " is public and not static",
                        Modifier.isPublic(method.getModifiers()) && !Modifier.isStatic(method.getModifiers()));
            }
        }
        Check.holds("methods " + found, found.equals(wanted));
        for (Method method : face.getDeclaredMethods()) {
            if (Modifier.isPrivate(method.getModifiers())) {
                Check.holds("private " + method.getName() + " has a name of its own",
                        !names.contains(method.getName()));
            }
        }
    }

    private static String signature(Method method) {
        StringBuilder text = new StringBuilder();
        text.append(method.getReturnType().getSimpleName()).append(' ').append(method.getName()).append('(');
        String comma = "";
        for (Class<?> parameter : method.getParameterTypes()) {
            text.append(comma).append(parameter.getSimpleName());
            comma = ",";
        }
        return text.append(')').toString();
    }

    private static void checkConstants(Class<?> face) throws ReflectiveOperationException {
        Set<String> found = new TreeSet<>();
        for (Field field : face.getDeclaredFields()) {
            if (!Modifier.isPrivate(field.getModifiers())) {
                found.add(field.getName());
            }
            if (Modifier.isStatic(field.getModifiers())) {
                Check.holds(field.getName() + " is final", Modifier.isFinal(field.getModifiers()));
            }
        }
        Check.holds("constants " + found, found.equals(new TreeSet<>(Set.of(CONSTANTS))));
        for (int i = 0; i < CONSTANTS.length; i++) {
            Check.due(CONSTANTS[i], face.getField(CONSTANTS[i]).getInt(null), -1 - i);
        }
    }
}
