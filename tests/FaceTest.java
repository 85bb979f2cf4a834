import java.lang.reflect.Constructor;
import java.lang.reflect.Field;
import java.lang.reflect.Method;
import java.lang.reflect.Modifier;
import java.util.Set;
import java.util.TreeSet;

/** The face of the class: what the document names is public, and nothing else is open. */
public final class FaceTest {
    private static final int MOST_FIELDS = 20;

    private static int wrong = 0;

    private static final Set<String> METHODS = Set.of(
            "int addPhoto(int,int,int,int)", "int readPhoto()", "int setAngle(int,int,int)",
            "int move(int,int,int)", "int setAside(int,boolean)", "int dropMissed()",
            "int remove(int)", "int type(char)", "int clearText()", "int undo()", "int keep()",
            "int restore()", "int photo(int,int)", "long arc(int,int,int,int,int,int)",
            "int hits(int,int,int)", "int best(int)", "long bestAt(int,int,int)", "int lands()",
            "int track(int,int)", "int fitsFrom(int)", "int spin(int)", "int fits(int,int)",
            "int angleAt(int)", "int count(int)");

    private static final Set<String> CONSTANTS = Set.of(
            "UNKNOWN=-1", "BAD_VALUE=-2", "FULL=-3", "NOT_POSSIBLE=-4", "NONE=-5");

    private static void due(String what, Object got, Object want) {
        if (!got.equals(want)) {
            wrong++;
            System.out.println(what + " is " + got + ", due is " + want);
        }
    }

    private static String signature(Method method) {
        StringBuilder text = new StringBuilder();
        text.append(method.getReturnType()).append(' ').append(method.getName()).append('(');
        String comma = "";
        for (Class<?> type : method.getParameterTypes()) {
            text.append(comma).append(type);
            comma = ",";
        }
        return text.append(')').toString();
    }

    private static void checkMethods() {
        Set<String> open = new TreeSet<>();
        Set<String> openNames = new TreeSet<>();
        for (Method method : DiscArcs.class.getDeclaredMethods()) {
            if (!Modifier.isPrivate(method.getModifiers()) && !method.isSynthetic()) {
                open.add(signature(method));
                openNames.add(method.getName());
            }
        }
        due("the methods", open, new TreeSet<>(METHODS));
        for (Method method : DiscArcs.class.getDeclaredMethods()) {
            if (Modifier.isPrivate(method.getModifiers())) {
                due("private " + method.getName() + " with a public name",
                        openNames.contains(method.getName()), false);
            }
        }
    }

    private static void checkFields() throws IllegalAccessException {
        Set<String> open = new TreeSet<>();
        for (Field field : DiscArcs.class.getDeclaredFields()) {
            int modifiers = field.getModifiers();
            if (!Modifier.isPrivate(modifiers)) {
                due(field.getName() + " is public static final",
                        Modifier.isPublic(modifiers) && Modifier.isStatic(modifiers)
                                && Modifier.isFinal(modifiers), true);
                open.add(field.getName() + "=" + field.get(null));
            }
            if (Modifier.isStatic(modifiers)) {
                due(field.getName() + " is final", Modifier.isFinal(modifiers), true);
            }
        }
        due("the constants", open, new TreeSet<>(CONSTANTS));
    }

    /** The classes inside keep to the same rules: names, fields that belong to no object, few fields. */
    private static void checkInside() {
        Set<String> openNames = new TreeSet<>();
        for (Method method : DiscArcs.class.getMethods()) {
            if (method.getDeclaringClass() == DiscArcs.class) {
                openNames.add(method.getName());
            }
        }
        due("the public names", openNames.size(), METHODS.size());
        checkNumberOfFields(DiscArcs.class);
        for (Class<?> inside : DiscArcs.class.getDeclaredClasses()) {
            due("classes inside " + inside, inside.getDeclaredClasses().length, 0);
            for (Method method : inside.getDeclaredMethods()) {
                due(inside + ", " + method.getName() + " with a public name",
                        openNames.contains(method.getName()), false);
            }
            for (Field field : inside.getDeclaredFields()) {
                due(inside + ", " + field.getName() + " is static and not final",
                        Modifier.isStatic(field.getModifiers()) && !Modifier.isFinal(field.getModifiers()), false);
            }
            checkNumberOfFields(inside);
        }
    }

    private static void checkNumberOfFields(Class<?> type) {
        int fields = 0;
        for (Field field : type.getDeclaredFields()) {
            fields += Modifier.isStatic(field.getModifiers()) ? 0 : 1;
        }
        due(type + " has more than " + MOST_FIELDS + " fields", fields > MOST_FIELDS, false);
    }

    private static void checkClass() {
        due("public final", Modifier.isPublic(DiscArcs.class.getModifiers())
                && Modifier.isFinal(DiscArcs.class.getModifiers()), true);
        Constructor<?>[] makers = DiscArcs.class.getDeclaredConstructors();
        due("the constructors", makers.length, 1);
        due("the constructor is public", Modifier.isPublic(makers[0].getModifiers()), true);
        due("its parameters", makers[0].getParameterCount(), 0);
        for (Class<?> inside : DiscArcs.class.getDeclaredClasses()) {
            due(inside + " is static and not public", Modifier.isStatic(inside.getModifiers())
                    && !Modifier.isPublic(inside.getModifiers())
                    && !Modifier.isProtected(inside.getModifiers()), true);
        }
    }

    public static void main(String[] args) throws IllegalAccessException {
        checkMethods();
        checkFields();
        checkClass();
        checkInside();
        System.out.println(wrong == 0 ? "the face is as due" : wrong + " faults of the face");
        if (wrong != 0) {
            System.exit(1);
        }
    }
}
