import java.lang.reflect.Constructor;
import java.lang.reflect.Field;
import java.lang.reflect.Method;
import java.lang.reflect.Modifier;
import java.util.TreeSet;

/** The public face: just what the document lists, and nothing else that is not private. */
public final class FaceTest {
    private static final String BAD_ARGUMENT = " throws java.lang.IllegalArgumentException";
    private static final String BAD_STATE = " throws java.lang.IllegalStateException";
    private static final String BAD_INDEX = " throws java.lang.IndexOutOfBoundsException";
    private static final String BAD_ARGUMENT_OR_STATE =
            BAD_ARGUMENT + ",java.lang.IllegalStateException";
    private static final String[] METHODS = {
        "int reset(int)" + BAD_ARGUMENT,
        "int serverAt(int)" + BAD_ARGUMENT,
        "int disruption()",
        "int forcedDisruption()",
        "double imbalance()",
        "int addServer(int,int)" + BAD_ARGUMENT_OR_STATE,
        "long removeServer(int)" + BAD_ARGUMENT,
        "int setWeight(int,int)" + BAD_ARGUMENT,
        "boolean setUp(int,boolean)" + BAD_ARGUMENT,
        "int serverCount()",
        "int serverNamed(int)" + BAD_ARGUMENT,
        "int preference(int,int)" + BAD_ARGUMENT,
        "int slotsOf(int)" + BAD_ARGUMENT,
        "double idealShare(int)" + BAD_ARGUMENT,
        "int removalDisruption(int)" + BAD_ARGUMENT,
        "int serverOf(int)" + BAD_ARGUMENT,
        "int request(int,int)" + BAD_ARGUMENT,
        "long loadOf(int)" + BAD_ARGUMENT,
        "int rankedServer(int)" + BAD_INDEX,
        "int pin(int,int)" + BAD_ARGUMENT_OR_STATE,
        "int unpin(int)" + BAD_ARGUMENT,
        "int pinHottest()" + BAD_STATE,
        "int trackedKeys()",
        "int hotKey(int)" + BAD_INDEX,
        "long hotCount(int)" + BAD_INDEX,
        "long hotError(int)" + BAD_INDEX,
        "int undo()" + BAD_STATE,
    };

    public static void main(String[] args) {
        TreeSet<String> due = new TreeSet<>();
        for (String method : METHODS) {
            due.add("public " + method);
        }
        due.add("public PreferenceTable()");
        due.add("public static final int NONE");
        Check.isText("the face", String.join("\n", face()), String.join("\n", due));
        Check.is("NONE", PreferenceTable.NONE, -1);
        Check.is("modifiers of the class", PreferenceTable.class.getModifiers(),
                Modifier.PUBLIC | Modifier.FINAL);
        noOtherPrivateMethodHasAPublicName();
        Check.finish();
    }

    private static TreeSet<String> face() {
        TreeSet<String> face = new TreeSet<>();
        for (Method method : PreferenceTable.class.getDeclaredMethods()) {
            addUnlessPrivate(face, method.getModifiers(), method.toString());
        }
        for (Constructor<?> constructor : PreferenceTable.class.getDeclaredConstructors()) {
            addUnlessPrivate(face, constructor.getModifiers(), constructor.toString());
        }
        for (Field field : PreferenceTable.class.getDeclaredFields()) {
            addUnlessPrivate(face, field.getModifiers(), field.toString());
        }
        for (Class<?> inside : PreferenceTable.class.getDeclaredClasses()) {
            if ((inside.getModifiers() & (Modifier.PUBLIC | Modifier.PROTECTED)) != 0
                    || (inside.getModifiers() & Modifier.STATIC) == 0) {
                face.add(inside.toString());
            }
        }
        return face;
    }

    private static void addUnlessPrivate(TreeSet<String> face, int modifiers, String text) {
        if (!Modifier.isPrivate(modifiers)) {
            face.add(text.replace("PreferenceTable.", ""));
        }
    }

    private static void noOtherPrivateMethodHasAPublicName() {
        TreeSet<String> names = new TreeSet<>();
        for (Method method : PreferenceTable.class.getDeclaredMethods()) {
            Check.judge(names.add(method.getName()), "two methods are named " + method.getName());
        }
    }
}
