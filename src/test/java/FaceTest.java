import java.lang.reflect.Constructor;
import java.lang.reflect.Field;
import java.lang.reflect.Method;
import java.lang.reflect.Modifier;
import java.util.ArrayList;
import java.util.Collections;
import java.util.List;

/** The public face: the document's members, and no others. */
public final class FaceTest {
    private static final String[] METHODS = {
        "boolean approve int int throws IndexOutOfBoundsException IllegalStateException",
        "boolean isLinked int throws IndexOutOfBoundsException",
        "char sign int int int int throws IndexOutOfBoundsException",
        "char signAnew int int int int throws IndexOutOfBoundsException",
        "int clause int throws IllegalArgumentException IllegalStateException",
        "int clear",
        "int costs int int int throws IndexOutOfBoundsException",
        "int data int int throws IndexOutOfBoundsException IllegalArgumentException IllegalStateException",
        "int fault",
        "int faultOf int int int int throws IndexOutOfBoundsException IllegalArgumentException",
        "int fill int int int throws IndexOutOfBoundsException",
        "int form int int int throws IndexOutOfBoundsException IllegalArgumentException IllegalStateException",
        "int letter throws IllegalStateException",
        "int price int int throws IndexOutOfBoundsException IllegalArgumentException",
        "int put int int throws IndexOutOfBoundsException IllegalStateException",
        "int relate int int int int throws IndexOutOfBoundsException IllegalArgumentException",
        "int sample int int throws IndexOutOfBoundsException",
        "int text int int throws IndexOutOfBoundsException IllegalStateException",
        "int type char throws IllegalStateException",
        "int word throws IllegalStateException",
    };

    public static void main(String[] args) {
        Check check = new Check();
        check.yes("public", Modifier.isPublic(Glosstemplate.class.getModifiers()));
        check.yes("final", Modifier.isFinal(Glosstemplate.class.getModifiers()));
        check.equal("NONE", -1, Glosstemplate.NONE);
        List<String> methods = new ArrayList<>();
        for (Method method : Glosstemplate.class.getDeclaredMethods()) {
            if (!Modifier.isPrivate(method.getModifiers()) && !method.isSynthetic()) {
                methods.add(told(method));
            }
        }
        Collections.sort(methods);
        List<String> due = new ArrayList<>(List.of(METHODS));
        Collections.sort(due);
        check.same("the methods", due.toString(), methods.toString());
        check.same("the constructors", "[int 0]", constructors().toString());
        check.same("the fields", "[NONE]", fields().toString());
        check.end();
    }

    private static String told(Method method) {
        StringBuilder told = new StringBuilder();
        told.append(method.getReturnType().getSimpleName()).append(' ').append(method.getName());
        for (Class<?> type : method.getParameterTypes()) {
            told.append(' ').append(type.getSimpleName());
        }
        told.append(method.getExceptionTypes().length == 0 ? "" : " throws");
        for (Class<?> thrown : method.getExceptionTypes()) {
            told.append(' ').append(thrown.getSimpleName());
        }
        if (!Modifier.isPublic(method.getModifiers()) || Modifier.isStatic(method.getModifiers())) {
            told.append(" with other modifiers");
        }
        return told.toString();
    }

    private static List<String> constructors() {
        List<String> told = new ArrayList<>();
        for (Constructor<?> made : Glosstemplate.class.getDeclaredConstructors()) {
            if (!Modifier.isPrivate(made.getModifiers()) && !made.isSynthetic()) {
                told.add("int " + made.getParameterCount());
            }
        }
        return told;
    }

    private static List<String> fields() {
        List<String> told = new ArrayList<>();
        for (Field field : Glosstemplate.class.getDeclaredFields()) {
            if (!Modifier.isPrivate(field.getModifiers()) && !field.isSynthetic()) {
                told.add(field.getName());
            }
        }
        return told;
    }
}
