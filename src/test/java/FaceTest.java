import java.lang.reflect.Constructor;
import java.lang.reflect.Field;
import java.lang.reflect.Method;
import java.lang.reflect.Modifier;
import java.util.ArrayList;
import java.util.Arrays;
import java.util.Collections;
import java.util.List;

/** The public face: what the document lists, with its types and exceptions, and nothing else that is not private. */
public final class FaceTest {
    private static final Checks CHECK = new Checks();
    private static final String INDEX = "java.lang.IndexOutOfBoundsException";
    private static final String ARGUMENT = "java.lang.IllegalArgumentException";
    private static final String STATE = "java.lang.IllegalStateException";

    private static final String[] DUE = {
        "boolean curve(int, boolean) I", "int sign(int, int) IA", "int pass(int, int, int) AS",
        "int measure(int, int, int, int) IAS", "int align(int) IS", "int machine(int, int) AS", "int service(int) IS",
        "int book(int, int, int, int, int) IAS", "int work(int, int, int) IAS", "int cancel(int) IS",
        "int mark(int, int) IS", "int take(int) IS", "int giveBack(int) IS", "boolean walk(int, int) IA",
        "int ofSection(int, int) IA", "int known(int, int) IA", "int why(int, boolean) I", "int ofMachine(int, int) IA",
        "int ofPossession(int, int) IA", "int many(int) A", "double meanWear(int) I", "int couldSee(int) I",
        "int firstRisk(int, int) IA", "int bestWork(int, int, int) IA", "int freeDay(int, int, int) IA",
        "int wouldOverrun(int) IS", "long digest() ",
    };

    public static void main(String[] args) {
        Class<?> face = TrackNights.class;
        CHECK.is("public and final", face.getModifiers(), Modifier.PUBLIC | Modifier.FINAL);
        methods(face);
        for (Field field : face.getDeclaredFields()) {
            CHECK.is("private: " + field, Modifier.isPrivate(field.getModifiers()), true);
        }
        Constructor<?>[] constructors = face.getDeclaredConstructors();
        CHECK.is("constructors", constructors.length, 1);
        CHECK.is("its parameters", constructors[0].getParameterCount(), 0);
        CHECK.is("public: its constructor", Modifier.isPublic(constructors[0].getModifiers()), true);
        for (Class<?> inside : face.getDeclaredClasses()) {
            int modifiers = inside.getModifiers();
            CHECK.is("static: " + inside, Modifier.isStatic(modifiers), true);
            CHECK.is("public or protected: " + inside, Modifier.isPublic(modifiers) || Modifier.isProtected(modifiers), false);
        }
        CHECK.finish();
    }

    private static void methods(Class<?> face) {
        List<String> open = new ArrayList<>();
        List<String> openNames = new ArrayList<>();
        for (Method method : face.getDeclaredMethods()) {
            if (!Modifier.isPrivate(method.getModifiers())) {
                CHECK.is("public alone: " + method, method.getModifiers(), Modifier.PUBLIC);
                open.add(written(method));
                openNames.add(method.getName());
            }
        }
        for (Method method : face.getDeclaredMethods()) {
            boolean hides = Modifier.isPrivate(method.getModifiers()) && openNames.contains(method.getName());
            CHECK.is("a private method with a public one's name: " + method, hides, false);
        }
        List<String> due = new ArrayList<>(Arrays.asList(DUE));
        Collections.sort(due);
        Collections.sort(open);
        CHECK.is("the methods are " + open + ", due are " + due, open.equals(due), true);
    }

    private static String written(Method method) {
        List<String> types = new ArrayList<>();
        for (Class<?> type : method.getParameterTypes()) {
            types.add(type.getName());
        }
        StringBuilder exceptions = new StringBuilder();
        for (Class<?> type : method.getExceptionTypes()) {
            exceptions.append(letter(type.getName()));
        }
        return method.getReturnType().getName() + " " + method.getName() + "(" + String.join(", ", types) + ") " + exceptions;
    }

    private static String letter(String exception) {
        if (exception.equals(INDEX)) {
            return "I";
        }
        if (exception.equals(ARGUMENT)) {
            return "A";
        }
        return exception.equals(STATE) ? "S" : exception;
    }
}
