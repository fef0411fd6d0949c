import java.lang.reflect.Constructor;
import java.lang.reflect.Field;
import java.lang.reflect.Method;
import java.lang.reflect.Modifier;
import java.util.ArrayList;
import java.util.Arrays;
import java.util.Collections;
import java.util.HashSet;
import java.util.List;
import java.util.Set;
import java.util.stream.Collectors;

/** The public face, and the rules of the language that a look at the compiled class can tell. */
public final class FaceTests extends Checks {
    private static final String I = "IndexOutOfBoundsException";
    private static final String A = "IllegalArgumentException";
    private static final String S = "IllegalStateException";
    private static final String U = "UnsupportedOperationException";
    private static final String N = "NoSuchElementException";
    private static final String D = "ArithmeticException";

    public static void main(String[] args) {
        expect("the public methods", String.join("\n", due()), String.join("\n", found()));
        theClass();
        for (Class<?> inner : Cascadum.class.getDeclaredClasses()) {
            theInner(inner);
        }
        close("FaceTests");
    }

    private static String line(String signature, String... thrown) {
        return signature + " throws " + String.join(", ", thrown);
    }

    private static List<String> due() {
        List<String> all = new ArrayList<>(List.of(
                line("int addElement(int,int,int,int)", I, A, S),
                line("int removeElement(int)", I, A, S),
                line("boolean moveElement(int,int)", I, S, U),
                line("int setClasses(int,int)", I, A, S),
                line("boolean setContainer(int,boolean)", I, S),
                line("int setWindow(int)", A),
                line("int compound(int,int,int,boolean)", A, S),
                line("boolean place(int,int,int,int)", I, A, S),
                line("int below(int,int)", I, A, S),
                line("int selector(int)", I, S),
                line("int join(int,char,int)", I, A, S),
                line("int addLayer(int,int)", I, A, S),
                line("int addRule(int,int,int)", I, A, S),
                line("int alsoFor(int,int)", I, S),
                line("int setScope(int,int)", I, A),
                line("int setCondition(int,int)", I, A),
                line("int value(char,int,int)", A, I, U, S),
                line("int declare(int,int,int,boolean)", I, A, S),
                line("int declareBox(int,int,int,boolean)", I, S),
                line("int dropDeclaration(int,int)", I),
                line("int refresh()"),
                line("int shared()"),
                line("int styled()"),
                line("int computed(int,int)", I, A, S, N),
                line("int computedAnew(int,int)", I, A, S, N),
                line("int width(int)", I, S),
                line("int winner(int,int)", I, A, S, N),
                line("int candidates(int,int)", I, A, S),
                line("int candidateAt(int,int,int)", I, A, S, N),
                line("boolean matches(int,int)", I, S),
                line("int weight(int)", I),
                line("int counter(int)", I, S, N),
                line("int counters(int)", I, S),
                line("long widths()"),
                line("float sharedShare()", D),
                line("double meanStyled()", D),
                line("boolean isTrue()")));
        Collections.sort(all);
        return all;
    }

    private static List<String> found() {
        return Arrays.stream(Cascadum.class.getDeclaredMethods())
                .filter(m -> Modifier.isPublic(m.getModifiers()))
                .map(FaceTests::told).sorted().collect(Collectors.toList());
    }

    private static String told(Method method) {
        String types = Arrays.stream(method.getParameterTypes()).map(Class::getName).collect(Collectors.joining(","));
        String[] thrown = Arrays.stream(method.getExceptionTypes()).map(Class::getSimpleName).toArray(String[]::new);
        return line(method.getReturnType().getName() + " " + method.getName() + "(" + types + ")", thrown);
    }

    private static Set<String> publicNames() {
        return Arrays.stream(Cascadum.class.getMethods()).map(Method::getName).collect(Collectors.toSet());
    }

    private static void theClass() {
        int kind = Cascadum.class.getModifiers();
        due("the class is public and final", true, () -> Modifier.isPublic(kind) && Modifier.isFinal(kind));
        Constructor<?>[] constructors = Cascadum.class.getDeclaredConstructors();
        due("one constructor", 1, () -> constructors.length);
        due("it is public and takes nothing", true,
                () -> Modifier.isPublic(constructors[0].getModifiers()) && constructors[0].getParameterCount() == 0);
        for (Field field : Cascadum.class.getDeclaredFields()) {
            due("private: " + field.getName(), true, () -> Modifier.isPrivate(field.getModifiers()));
        }
        Set<String> names = publicNames();
        for (Method method : Cascadum.class.getDeclaredMethods()) {
            if (!Modifier.isPublic(method.getModifiers())) {
                due("private: " + method.getName(), true, () -> Modifier.isPrivate(method.getModifiers()));
                due("no public name: " + method.getName(), false, () -> names.contains(method.getName()));
            }
        }
        due("some twelve classes", true, () -> Cascadum.class.getDeclaredClasses().length <= 11);
        fields(Cascadum.class);
    }

    private static void theInner(Class<?> inner) {
        String name = inner.getSimpleName();
        Set<String> names = new HashSet<>(publicNames());
        due(name + " is static", true, () -> Modifier.isStatic(inner.getModifiers()));
        due(name + " is not public", false, () -> Modifier.isPublic(inner.getModifiers()));
        for (Method method : inner.getDeclaredMethods()) {
            due(name + ": no public name: " + method.getName(), false, () -> names.contains(method.getName()));
            due(name + ": at most seven parameters: " + method.getName(), true, () -> method.getParameterCount() <= 7);
        }
        fields(inner);
    }

    /** What is static is final, and a class has some twenty fields at most. */
    private static void fields(Class<?> owner) {
        List<Field> own = new ArrayList<>();
        for (Field field : owner.getDeclaredFields()) {
            if (Modifier.isStatic(field.getModifiers())) {
                due("final: " + field.getName(), true, () -> Modifier.isFinal(field.getModifiers()));
            } else {
                own.add(field);
            }
        }
        due("some twenty fields: " + owner.getSimpleName(), true, () -> own.size() <= 20);
    }
}
