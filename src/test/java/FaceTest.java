import java.lang.reflect.Constructor;
import java.lang.reflect.Field;
import java.lang.reflect.Method;
import java.lang.reflect.Modifier;
import java.util.TreeSet;

/** The class shows the document's face and no other member. */
public final class FaceTest {
    // A: throws IllegalArgumentException, S: IllegalStateException.
    private static final String[] FACE = {
        "int predicate(int) A S", "boolean define(int,int) A", "int constant() S", "int locus(int) A S",
        "int atom(int,int,int) A S", "int join(int,int,int) A S", "int bind(boolean,int,int) A S",
        "int proof(int) A S", "int now() S", "int let() S", "boolean fit()", "boolean assume(int) A S",
        "boolean thus(int) A S", "boolean take(int) A S", "boolean given(int,int) A S", "void cases() S",
        "int suppose(int) A S", "int end() S", "int thesis() S", "int ways() S", "int about(int,int) A",
        "int part(int,int) A S", "boolean alike(int,int) A", "int count(int) A",
    };

    public static void main(String[] args) {
        TreeSet<String> due = new TreeSet<>();
        TreeSet<String> names = new TreeSet<>();
        for (String one : FACE) {
            due.add(one);
            names.add(one.substring(one.indexOf(' ') + 1, one.indexOf('(')));
        }
        TreeSet<String> got = new TreeSet<>();
        for (Method method : ThesisDesk.class.getDeclaredMethods()) {
            if (!Modifier.isPrivate(method.getModifiers())) {
                got.add(written(method));
            } else {
                Check.due("private method named " + method.getName(), names.contains(method.getName()), false);
            }
        }
        Check.due("the methods " + got + " are the document's", got.equals(due), true);
        for (Field field : ThesisDesk.class.getDeclaredFields()) {
            Check.due("field " + field.getName() + " is private", Modifier.isPrivate(field.getModifiers()), true);
        }
        Constructor<?>[] constructors = ThesisDesk.class.getDeclaredConstructors();
        Check.due("constructors", constructors.length, 1);
        Check.due("parameters of the constructor", constructors[0].getParameterCount(), 0);
        Check.due("public constructor", Modifier.isPublic(constructors[0].getModifiers()), true);
        Check.due("public final class", ThesisDesk.class.getModifiers(), Modifier.PUBLIC | Modifier.FINAL);
        Check.finish();
    }

    private static String written(Method method) {
        StringBuilder text = new StringBuilder(method.getReturnType() + " " + method.getName() + "(");
        for (Class<?> type : method.getParameterTypes()) {
            text.append(text.charAt(text.length() - 1) == '(' ? "" : ",").append(type);
        }
        text.append(")");
        for (Class<?> type : method.getExceptionTypes()) {
            text.append(type == IllegalArgumentException.class ? " A"
                : type == IllegalStateException.class ? " S" : " " + type);
        }
        return text.toString();
    }
}
