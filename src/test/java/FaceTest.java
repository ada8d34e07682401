import java.lang.reflect.Constructor;
import java.lang.reflect.Field;
import java.lang.reflect.Method;
import java.lang.reflect.Modifier;
import java.util.Arrays;
import java.util.TreeSet;

/** The public face is the document's, and nothing else of the class can be seen. */
public final class FaceTest {
    private static final String[] FACE = {
        "int rule(int,int,int)",
        "int act(int,int,int,int,int,int)",
        "void useStack(boolean)",
        "int setSeparator(int)",
        "int type(int)",
        "int end()",
        "int setField(int,int)",
        "int fields()",
        "int number(int)",
        "char character(int,int)",
        "int rows()",
        "int row(int)",
        "char key(int,int)",
        "int lines()",
        "char line(int,int)",
        "int faults()",
    };

    public static void main(String[] args) {
        Check check = new Check("FaceTest");
        check.same("the class", Modifier.toString(FieldScribe.class.getModifiers()), "public final");
        TreeSet<String> open = new TreeSet<>();
        TreeSet<String> openNames = new TreeSet<>();
        TreeSet<String> hiddenNames = new TreeSet<>();
        for (Method method : FieldScribe.class.getDeclaredMethods()) {
            if (Modifier.isPrivate(method.getModifiers())) {
                hiddenNames.add(method.getName());
            } else {
                open.add(written(method));
                openNames.add(method.getName());
            }
        }
        check.same("the methods", open.toString(), new TreeSet<>(Arrays.asList(FACE)).toString());
        hiddenNames.retainAll(openNames);
        check.same("private methods with a public one's name", hiddenNames.toString(), "[]");
        for (Field field : FieldScribe.class.getDeclaredFields()) {
            check.same("field " + field.getName() + " is private", Modifier.isPrivate(field.getModifiers()) ? 1 : 0, 1);
        }
        Constructor<?>[] constructors = FieldScribe.class.getDeclaredConstructors();
        check.same("constructors", constructors.length, 1);
        check.same("the constructor", constructors[0].toString(), "public FieldScribe()");
        check.finish();
    }

    private static String written(Method method) {
        StringBuilder parameters = new StringBuilder();
        for (Class<?> type : method.getParameterTypes()) {
            parameters.append(parameters.length() == 0 ? "" : ",").append(type.getName());
        }
        return method.getReturnType().getName() + " " + method.getName() + "(" + parameters + ")";
    }
}
