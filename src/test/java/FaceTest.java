import java.lang.reflect.Constructor;
import java.lang.reflect.Field;
import java.lang.reflect.Method;
import java.lang.reflect.Modifier;
import java.util.ArrayList;
import java.util.List;
import java.util.Set;
import java.util.TreeSet;

/** The public face is that of the document, and nothing else can be seen. */
public final class FaceTest {
    private static final String I = "IllegalArgumentException";
    private static final String X = "IndexOutOfBoundsException";
    private static final String S = "IllegalStateException";
    private static final String U = "UnsupportedOperationException";
    private static final String A = "ArithmeticException";

    public static void main(String[] args) {
        Due.of("the public face");
        Set<String> want = new TreeSet<>(List.of(
            "void rule/5 " + I + " " + X,
            "void weight/3 " + I + " " + X,
            "int point/2 " + I + " " + X + " " + U,
            "int call/6 " + I + " " + X + " " + U,
            "int reasonFor/6 " + I + " " + X,
            "void mark/2 " + I + " " + X,
            "int split/1 " + I + " " + S + " " + U,
            "int merge/2 " + I + " " + S,
            "void watch/4 " + I + " " + X + " " + S,
            "void state/2 " + I + " " + X + " " + S,
            "int share/2 " + I + " " + A,
            "int agree/2 " + I,
            "int callAt/2 " + I,
            "int eventAt/2 " + I,
            "int member/2 " + I + " " + X,
            "int count/1 " + I));
        Set<String> got = new TreeSet<>();
        Set<String> publicNames = new TreeSet<>();
        List<String> privateNames = new ArrayList<>();
        for (Method method : CallJoin.class.getDeclaredMethods()) {
            if (Modifier.isPrivate(method.getModifiers())) {
                privateNames.add(method.getName());
            } else {
                got.add(describe(method));
                publicNames.add(method.getName());
            }
        }
        Due.same("the methods", want.toString(), got.toString());
        privateNames.retainAll(publicNames);
        Due.same("private methods with a public one's name", "[]", privateNames.toString());
        Due.same("public and final", "true",
            Boolean.toString(CallJoin.class.getModifiers() == (Modifier.PUBLIC | Modifier.FINAL)));
        for (Field field : CallJoin.class.getDeclaredFields()) {
            Due.same(field + " is private", "true", Boolean.toString(Modifier.isPrivate(field.getModifiers())));
        }
        for (Constructor<?> constructor : CallJoin.class.getDeclaredConstructors()) {
            Due.same("the constructor", "public CallJoin()", constructor.toString());
        }
        Due.end();
    }

    private static String describe(Method method) {
        StringBuilder text = new StringBuilder();
        text.append(method.getReturnType()).append(' ').append(method.getName());
        text.append('/').append(method.getParameterCount());
        for (Class<?> exception : method.getExceptionTypes()) {
            text.append(' ').append(exception.getSimpleName());
        }
        return text.toString();
    }
}
