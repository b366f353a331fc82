import java.lang.reflect.Constructor;
import java.lang.reflect.Field;
import java.lang.reflect.Method;
import java.lang.reflect.Modifier;
import java.util.Arrays;
import java.util.Set;
import java.util.TreeMap;
import java.util.TreeSet;

/** The public face: every constant, the constructor and every method of the document, no more. */
public final class FaceTest {

    private static final String INDEX = "IndexOutOfBoundsException";
    private static final String ARGUMENT = "IllegalArgumentException";
    private static final String STATE = "IllegalStateException";

    private static final TreeMap<String, String> METHODS = new TreeMap<>();

    private static void method(String face, String... thrown) {
        METHODS.put(face, new TreeSet<>(Arrays.asList(thrown)).toString());
    }

    private static void listMethods() {
        method("int word(int int int)", INDEX, ARGUMENT, STATE);
        method("int write(int int int)", INDEX, STATE);
        method("int slip(int int int)", INDEX, ARGUMENT);
        method("int type(int int int)", INDEX, ARGUMENT, STATE);
        method("int reading(int int)", INDEX);
        method("int unlikely(int int)", INDEX, ARGUMENT);
        method("int likeliest(int)", INDEX);
        method("int restored(int int)", INDEX);
        method("int sheetIs(int int)", INDEX, ARGUMENT);
        method("boolean meet(int int)", INDEX, ARGUMENT, STATE);
        method("int give(int int)", INDEX, STATE);
        method("int hide(int int)", INDEX, ARGUMENT, STATE);
        method("void burn(int)", INDEX, STATE);
        method("int whoHad(int int int)", INDEX, ARGUMENT);
        method("int knows(int)", INDEX);
        method("int lend(int int)", INDEX, STATE);
        method("int file(int)", INDEX, STATE);
        method("int informer(int)", INDEX, STATE);
        method("int strong(int int)", INDEX, ARGUMENT);
        method("int arrest(int)", INDEX, STATE);
        method("int search(int int)", INDEX, ARGUMENT, STATE);
        method("int amnesty()");
        method("boolean isKnown(int)", INDEX);
        method("boolean isKnownAnew(int)", INDEX);
        method("int risk(int int)", INDEX, ARGUMENT);
        method("int pass(int)", ARGUMENT, STATE);
        method("void life(int boolean boolean)", INDEX);
        method("int open()");
        method("int line(int int)", INDEX, ARGUMENT, STATE);
    }

    public static void main(String[] args) {
        listMethods();
        Check.due("the class is public and final", Modifier.PUBLIC | Modifier.FINAL,
                ThinSheets.class.getModifiers());
        checkConstants();
        checkFields();
        checkConstructors();
        checkMethods();
        checkInnerClasses();
        Check.end();
    }

    private static void checkConstants() {
        Check.due("NONE", -1, ThinSheets.NONE);
        Check.due("BLANK", -1, ThinSheets.BLANK);
        Check.due("OMITTED", -2, ThinSheets.OMITTED);
        Check.due("WORD", 0, ThinSheets.WORD);
        Check.due("LEAP", 1, ThinSheets.LEAP);
        Check.due("GUESS", 2, ThinSheets.GUESS);
        Check.due("INFORMED", 0, ThinSheets.INFORMED);
        Check.due("MACHINE", 1, ThinSheets.MACHINE);
        Check.due("OPENED", 2, ThinSheets.OPENED);
        Check.due("ARRESTED", 3, ThinSheets.ARRESTED);
        Check.due("SEARCHED", 4, ThinSheets.SEARCHED);
        Check.due("COVERED", -2, ThinSheets.COVERED);
    }

    private static void checkFields() {
        Set<String> constants = Set.of("NONE", "BLANK", "OMITTED", "WORD", "LEAP", "GUESS",
                "INFORMED", "MACHINE", "OPENED", "ARRESTED", "SEARCHED", "COVERED");
        int found = 0;
        for (Field field : ThinSheets.class.getDeclaredFields()) {
            int flags = field.getModifiers();
            if (constants.contains(field.getName())) {
                found++;
                Check.due(field.getName() + " is public static final",
                        Modifier.PUBLIC | Modifier.STATIC | Modifier.FINAL, flags);
            } else {
                Check.due(field.getName() + " is private", true, Modifier.isPrivate(flags));
            }
            if (Modifier.isStatic(flags)) {
                Check.due(field.getName() + " is final", true, Modifier.isFinal(flags));
            }
        }
        Check.due("constants", constants.size(), found);
    }

    private static void checkConstructors() {
        Constructor<?>[] made = ThinSheets.class.getDeclaredConstructors();
        Check.due("constructors", 1, made.length);
        Check.due("arguments of the constructor", 0, made[0].getParameterCount());
        Check.due("the constructor is public", Modifier.PUBLIC, made[0].getModifiers());
    }

    private static void checkMethods() {
        TreeMap<String, String> found = new TreeMap<>();
        Set<String> publicNames = new TreeSet<>();
        for (Method method : ThinSheets.class.getDeclaredMethods()) {
            if (!Modifier.isPrivate(method.getModifiers())) {
                Check.due(method + " is public", Modifier.PUBLIC, method.getModifiers());
                found.put(faceOf(method), namesOf(method.getExceptionTypes()).toString());
                publicNames.add(method.getName());
            }
        }
        if (!found.equals(METHODS)) {
            Check.report("the methods are " + found + ", due are " + METHODS);
        }
        for (Method method : ThinSheets.class.getDeclaredMethods()) {
            if (Modifier.isPrivate(method.getModifiers()) && publicNames.contains(method.getName())) {
                Check.report("a private method bears the name " + method.getName());
            }
        }
    }

    private static void checkInnerClasses() {
        for (Class<?> inner : ThinSheets.class.getDeclaredClasses()) {
            int flags = inner.getModifiers();
            Check.due(inner + " is static", true, Modifier.isStatic(flags));
            Check.due(inner + " is for the file alone", false,
                    Modifier.isPublic(flags) || Modifier.isProtected(flags));
        }
    }

    private static String faceOf(Method method) {
        StringBuilder face = new StringBuilder();
        face.append(method.getReturnType().getSimpleName()).append(' ').append(method.getName());
        face.append('(');
        String gap = "";
        for (Class<?> parameter : method.getParameterTypes()) {
            face.append(gap).append(parameter.getSimpleName());
            gap = " ";
        }
        return face.append(')').toString();
    }

    private static TreeSet<String> namesOf(Class<?>[] classes) {
        TreeSet<String> names = new TreeSet<>();
        for (Class<?> one : classes) {
            names.add(one.getSimpleName());
        }
        return names;
    }
}
