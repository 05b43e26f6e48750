import java.lang.reflect.Constructor;
import java.lang.reflect.Field;
import java.lang.reflect.Method;
import java.lang.reflect.Modifier;
import java.util.Arrays;
import java.util.Set;
import java.util.TreeSet;

/** The public face is the document's, and nothing of the class besides it can be seen from outside. */
public final class FaceTest {

    private static final String INDEX = "IndexOutOfBoundsException";
    private static final String ARGUMENT = "IllegalArgumentException";
    private static final String STATE = "IllegalStateException";

    private static final Set<String> FACE = new TreeSet<>(Arrays.asList(
            face("addRoad(int,int,boolean)", ARGUMENT, STATE),
            face("setDepot(int,int)", ARGUMENT, STATE),
            face("addUnit(int,int,int)", ARGUMENT, STATE),
            face("order(int,int)", INDEX, ARGUMENT),
            face("play(int)", ARGUMENT, STATE),
            face("played()"),
            face("rule(int,int)", INDEX, ARGUMENT),
            face("appeal()", STATE),
            face("townOf(int)", INDEX),
            face("strength(int)", INDEX),
            face("supply(int,int)", INDEX, ARGUMENT),
            face("townAfter(int,int)", INDEX),
            face("reported(int,int)", ARGUMENT, INDEX),
            face("force(int)", ARGUMENT),
            face("weather(int)", INDEX),
            face("rulings()")));

    public static void main(String[] args) {
        classIsPublicAndFinal();
        methodsAreTheDocuments();
        nothingElseIsVisible();
        Due.end();
    }

    private static String face(String call, String... thrown) {
        return "public int " + call + " throws " + Arrays.toString(thrown);
    }

    private static void classIsPublicAndFinal() {
        Due.is("modifiers of the class", WarTable.class.getModifiers(), Modifier.PUBLIC | Modifier.FINAL);
        Constructor<?>[] constructors = WarTable.class.getDeclaredConstructors();
        Due.is("constructors", constructors.length, 1);
        Due.is("modifiers of the constructor", constructors[0].getModifiers(), Modifier.PUBLIC);
        Due.is("parameters of the constructor", constructors[0].getParameterCount(), 0);
    }

    private static void methodsAreTheDocuments() {
        Set<String> found = new TreeSet<>();
        Set<String> names = new TreeSet<>();
        for (Method method : WarTable.class.getDeclaredMethods()) {
            if (!Modifier.isPrivate(method.getModifiers())) {
                found.add(described(method));
                names.add(method.getName());
            }
        }
        Due.is("methods that can be seen", found.size(), FACE.size());
        for (String method : found) {
            Due.is("the document has " + method, FACE.contains(method) ? 1 : 0, 1);
        }
        for (Method method : WarTable.class.getDeclaredMethods()) {
            if (Modifier.isPrivate(method.getModifiers())) {
                Due.is("private " + method.getName() + " bears a public name", names.contains(method.getName()) ? 1 : 0, 0);
            }
        }
    }

    private static String described(Method method) {
        String[] types = new String[method.getParameterCount()];
        for (int i = 0; i < types.length; i++) {
            types[i] = method.getParameterTypes()[i].getSimpleName();
        }
        String[] thrown = new String[method.getExceptionTypes().length];
        for (int i = 0; i < thrown.length; i++) {
            thrown[i] = method.getExceptionTypes()[i].getSimpleName();
        }
        return Modifier.toString(method.getModifiers()) + " " + method.getReturnType().getSimpleName() + " "
                + method.getName() + "(" + String.join(",", types) + ") throws " + Arrays.toString(thrown);
    }

    private static void nothingElseIsVisible() {
        for (Field field : WarTable.class.getDeclaredFields()) {
            Due.is("field " + field.getName() + " is private", Modifier.isPrivate(field.getModifiers()) ? 1 : 0, 1);
            Due.is("static field " + field.getName() + " is final",
                    !Modifier.isStatic(field.getModifiers()) || Modifier.isFinal(field.getModifiers()) ? 1 : 0, 1);
        }
        for (Class<?> inside : WarTable.class.getDeclaredClasses()) {
            Due.is("class " + inside.getName() + " is static", Modifier.isStatic(inside.getModifiers()) ? 1 : 0, 1);
            Due.is("class " + inside.getName() + " is hidden",
                    Modifier.isPublic(inside.getModifiers()) || Modifier.isProtected(inside.getModifiers()) ? 1 : 0, 0);
        }
    }
}
