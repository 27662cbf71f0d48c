import java.lang.reflect.Constructor;
import java.lang.reflect.Field;
import java.lang.reflect.Method;
import java.lang.reflect.Modifier;
import java.util.Set;
import java.util.TreeSet;

/** The public face is the document's, and nothing else of the class can be seen from outside. */
public final class FaceTest {
    private static final String[] METHODS = {
        "int row(int,boolean)", "int put(int,int,int)", "int of(int,int)", "int slices(int,int)",
        "int slice(int,int)", "int member(int,int)", "long share(int,int,int)",
        "long gap(int,int,int,int) throws ArithmeticException", "int window(int,int)",
        "long drift(int,int,int,int,int) throws ArithmeticException", "int rise(int,int,int,int)",
        "long odds(int,int,int,int,int)", "int fresh(int,int,int,int,int)",
        "long shift(int,int,int,int,int,int) throws ArithmeticException",
        "int order(int,int,int,int) throws ArithmeticException", "int watch(int,int,int,int,int)",
        "int step(int,int)", "int count(int)"
    };
    private static final String[] CONSTANTS = {"NONE", "UNKNOWN", "OUTSIDE", "STATE", "ROOM"};

    public static void main(String[] args) {
        Check check = new Check();
        check.begin("face");
        Set<String> methods = new TreeSet<>();
        for (Method method : SliceDrift.class.getDeclaredMethods()) {
            if (!Modifier.isPrivate(method.getModifiers())) {
                methods.add(told(method));
            }
        }
        check.due("methods " + methods, 1, methods.equals(Set.of(METHODS)) ? 1 : 0);
        Set<String> fields = new TreeSet<>();
        for (Field field : SliceDrift.class.getDeclaredFields()) {
            if (!Modifier.isPrivate(field.getModifiers())) {
                fields.add(field.getName());
            }
        }
        check.due("constants " + fields, 1, fields.equals(Set.of(CONSTANTS)) ? 1 : 0);
        Constructor<?>[] constructors = SliceDrift.class.getDeclaredConstructors();
        check.due("constructors", 1, constructors.length);
        check.due("constructor's parameters", 0, constructors[0].getParameterCount());
        check.due("constructor is public", 1, Modifier.isPublic(constructors[0].getModifiers()) ? 1 : 0);
        int modifiers = SliceDrift.class.getModifiers();
        check.due("public final", 1, Modifier.isPublic(modifiers) && Modifier.isFinal(modifiers) ? 1 : 0);
        check.due("NONE", -1, SliceDrift.NONE);
        check.due("UNKNOWN", -1000001, SliceDrift.UNKNOWN);
        check.due("OUTSIDE", -1000002, SliceDrift.OUTSIDE);
        check.due("STATE", -1000003, SliceDrift.STATE);
        check.due("ROOM", -1000004, SliceDrift.ROOM);
        check.end();
    }

    private static String told(Method method) {
        StringBuilder text = new StringBuilder(method.getReturnType().getName());
        text.append(' ').append(method.getName()).append('(');
        String comma = "";
        for (Class<?> parameter : method.getParameterTypes()) {
            text.append(comma).append(parameter.getName());
            comma = ",";
        }
        text.append(')');
        for (Class<?> thrown : method.getExceptionTypes()) {
            text.append(" throws ").append(thrown.getSimpleName());
        }
        return text.toString();
    }
}
