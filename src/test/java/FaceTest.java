import java.lang.reflect.Constructor;
import java.lang.reflect.Field;
import java.lang.reflect.Method;
import java.lang.reflect.Modifier;
import java.util.List;
import java.util.Set;
import java.util.TreeSet;

/** The public face is that of the document, and nothing else can be seen. */
public final class FaceTest {
    private static final String I = "IllegalArgumentException";
    private static final String X = "IndexOutOfBoundsException";
    private static final String S = "IllegalStateException";
    private static final String U = "UnsupportedOperationException";
    private static final String A = "ArithmeticException";

    public static void main(String[] args) {
        Due.of("the public face");
        publicAndFinal();
        theConstructor();
        theSixteenMethods();
        privateMethodsHaveOtherNames();
        fieldsArePrivate();
        classesInsideAreStaticAndNotPublic();
        Due.end();
    }

    private static void publicAndFinal() {
        Due.holds("the class is public and final", CallJoin.class.getModifiers() == (Modifier.PUBLIC | Modifier.FINAL));
        Due.same("its package", "", CallJoin.class.getPackageName());
    }

    private static void theConstructor() {
        Constructor<?>[] constructors = CallJoin.class.getDeclaredConstructors();
        Due.same("constructors", "1", Integer.toString(constructors.length));
        Due.same("the constructor", "public CallJoin()", constructors[0].toString());
    }

    private static void theSixteenMethods() {
        Set<String> want = new TreeSet<>(List.of(
            "public void rule(int int int int int) " + I + " " + X,
            "public void weight(int int int) " + I + " " + X,
            "public int point(int int) " + I + " " + X + " " + U,
            "public int call(int int int int int int) " + I + " " + X + " " + U,
            "public int reasonFor(int int int int int int) " + I + " " + X,
            "public void mark(int int) " + I + " " + X,
            "public int split(int) " + I + " " + S + " " + U,
            "public int merge(int int) " + I + " " + S,
            "public void watch(int int int int) " + I + " " + X + " " + S,
            "public void state(int int) " + I + " " + X + " " + S,
            "public int share(int int) " + I + " " + A,
            "public int agree(int int) " + I,
            "public int callAt(int int) " + I,
            "public int eventAt(int int) " + I,
            "public int member(int int) " + I + " " + X,
            "public int count(int) " + I));
        Set<String> got = new TreeSet<>();
        for (Method method : CallJoin.class.getDeclaredMethods()) {
            if (!Modifier.isPrivate(method.getModifiers())) {
                got.add(describe(method));
            }
        }
        Due.same("the methods", want.toString(), got.toString());
    }

    private static void privateMethodsHaveOtherNames() {
        Set<String> publicNames = new TreeSet<>();
        Set<String> privateNames = new TreeSet<>();
        for (Method method : CallJoin.class.getDeclaredMethods()) {
            (Modifier.isPrivate(method.getModifiers()) ? privateNames : publicNames).add(method.getName());
        }
        privateNames.retainAll(publicNames);
        Due.same("private methods with a public one's name", "[]", privateNames.toString());
    }

    private static void fieldsArePrivate() {
        for (Field field : CallJoin.class.getDeclaredFields()) {
            int how = field.getModifiers();
            Due.holds(field + " is private", Modifier.isPrivate(how));
            Due.holds(field + " is final if it is static", Modifier.isFinal(how) || !Modifier.isStatic(how));
        }
    }

    private static void classesInsideAreStaticAndNotPublic() {
        for (Class<?> inside : CallJoin.class.getDeclaredClasses()) {
            int how = inside.getModifiers();
            Due.holds(inside + " is static", Modifier.isStatic(how));
            Due.holds(inside + " is private or of the package", !Modifier.isPublic(how) && !Modifier.isProtected(how));
        }
    }

    private static String describe(Method method) {
        return Modifier.toString(method.getModifiers()) + " " + method.getReturnType() + " " + method.getName()
            + "(" + namesOf(method.getParameterTypes()) + ") " + namesOf(method.getExceptionTypes());
    }

    private static String namesOf(Class<?>[] types) {
        StringBuilder names = new StringBuilder();
        for (Class<?> type : types) {
            names.append(names.length() == 0 ? "" : " ").append(type.getSimpleName());
        }
        return names.toString();
    }
}
