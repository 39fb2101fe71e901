import java.lang.reflect.Constructor;
import java.lang.reflect.Field;
import java.lang.reflect.Method;
import java.lang.reflect.Modifier;
import java.util.TreeSet;

/** The class shows the document's face and no other member. */
public final class FaceTest {
    private static final String[] FACE = {
        "int predicate(int)", "boolean define(int,int)", "int constant()", "int locus(int)",
        "int atom(int,int,int)", "int join(int,int,int)", "int bind(boolean,int,int)", "int proof(int)",
        "int now()", "int let()", "boolean fit()", "boolean assume(int)", "boolean thus(int)",
        "boolean take(int)", "boolean given(int,int)", "void cases()", "int suppose(int)", "int end()",
        "int thesis()", "int ways()", "int about(int,int)", "int part(int,int)", "boolean alike(int,int)",
        "int count(int)",
    };

    public static void main(String[] args) {
        TreeSet<String> due = new TreeSet<>();
        TreeSet<String> names = new TreeSet<>();
        for (String one : FACE) {
            due.add(one);
            names.add(one.substring(one.indexOf(' ') + 1, one.indexOf('(')));
        }
        TreeSet<String> got = new TreeSet<>();
        for (Method method : ThesisDesk.class.getDeclaredMethods()) {
            if (!Modifier.isPrivate(method.getModifiers())) {
                got.add(written(method));
            } else {
                Check.due("private method named " + method.getName(), names.contains(method.getName()), false);
            }
        }
        Check.due("the methods " + got + " are the document's", got.equals(due), true);
        for (Field field : ThesisDesk.class.getDeclaredFields()) {
            Check.due("field " + field.getName() + " is private", Modifier.isPrivate(field.getModifiers()), true);
        }
        Constructor<?>[] constructors = ThesisDesk.class.getDeclaredConstructors();
        Check.due("constructors", constructors.length, 1);
        Check.due("parameters of the constructor", constructors[0].getParameterCount(), 0);
        Check.due("public constructor", Modifier.isPublic(constructors[0].getModifiers()), true);
        Check.due("public final class", ThesisDesk.class.getModifiers(), Modifier.PUBLIC | Modifier.FINAL);
        Check.finish();
    }

    private static String written(Method method) {
        StringBuilder text = new StringBuilder(method.getReturnType() + " " + method.getName() + "(");
        for (Class<?> type : method.getParameterTypes()) {
            text.append(text.charAt(text.length() - 1) == '(' ? "" : ",").append(type);
        }
        return text.append(")").toString();
    }
}
