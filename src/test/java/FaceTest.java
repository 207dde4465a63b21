import java.lang.reflect.Constructor;
import java.lang.reflect.Field;
import java.lang.reflect.Method;
import java.lang.reflect.Modifier;
import java.util.HashSet;
import java.util.Set;
import java.util.TreeSet;

/** The class shows the document's face and nothing else, and keeps rules 1 and 5 of LANGUAGE.md. */
public final class FaceTest {
    private static final String[] FACE = {
        "int deposit(int,int)", "int withdraw(int,int)", "int contribute(int,int)", "int endow(int)",
        "int order(int,int,boolean,int,int,int)", "int cancel(int)", "int call(int)", "int open(int)",
        "int settle(int,int)", "boolean light(int)", "boolean down()", "int recover()", "int messages()",
        "int reply(int)", "long cash(int)", "long share(int)", "int position(int,int)", "long cost(int,int)",
        "long spare(int)", "boolean defaulter(int)", "int best(int,boolean)", "int volume(int,boolean,int)",
        "int last(int)", "int phase(int)", "int state(int,int)", "int trades()", "int trade(int,int)",
    };

    public static void main(String[] args) {
        Check check = new Check("FaceTest");
        Class<?> type = ClearedExchange.class;
        check.due("is public", Modifier.isPublic(type.getModifiers()), true);
        check.due("is final", Modifier.isFinal(type.getModifiers()), true);
        methodsAreTheFace(check, type);
        constructorsAreTheFace(check, type);
        for (Field field : type.getDeclaredFields()) {
            check.due(field + " is private", Modifier.isPrivate(field.getModifiers()), true);
        }
        for (Class<?> inside : type.getDeclaredClasses()) {
            check.due(inside + " is static", Modifier.isStatic(inside.getModifiers()), true);
            check.due(inside + " is public", Modifier.isPublic(inside.getModifiers()), false);
            staticFieldsAreFinal(check, inside);
        }
        staticFieldsAreFinal(check, type);
        check.end();
    }

    private static void methodsAreTheFace(Check check, Class<?> type) {
        Set<String> shown = new TreeSet<>();
        Set<String> names = new HashSet<>();
        Set<String> hidden = new HashSet<>();
        for (Method method : type.getDeclaredMethods()) {
            if (Modifier.isPrivate(method.getModifiers())) {
                hidden.add(method.getName());
            } else {
                shown.add(signature(method));
                names.add(method.getName());
                check.due(method + " is public", Modifier.isPublic(method.getModifiers()), true);
                check.due(method + " is static", Modifier.isStatic(method.getModifiers()), false);
            }
        }
        for (String wanted : FACE) {
            check.due("has " + wanted, shown.remove(wanted), true);
        }
        for (String other : shown) {
            check.due("has " + other, true, false);
        }
        hidden.retainAll(names);
        check.due("private methods named as public ones", hidden.size(), 0);
    }

    private static void constructorsAreTheFace(Check check, Class<?> type) {
        Constructor<?>[] constructors = type.getDeclaredConstructors();
        check.due("constructors", constructors.length, 1);
        check.due("constructor is public", Modifier.isPublic(constructors[0].getModifiers()), true);
        Class<?>[] parameters = constructors[0].getParameterTypes();
        check.due("constructor takes one int", parameters.length == 1 && parameters[0] == int.class, true);
    }

    private static void staticFieldsAreFinal(Check check, Class<?> type) {
        for (Field field : type.getDeclaredFields()) {
            if (Modifier.isStatic(field.getModifiers())) {
                check.due(field + " is final", Modifier.isFinal(field.getModifiers()), true);
            }
        }
    }

    private static String signature(Method method) {
        StringBuilder text = new StringBuilder();
        text.append(method.getReturnType().getName()).append(' ').append(method.getName()).append('(');
        String comma = "";
        for (Class<?> parameter : method.getParameterTypes()) {
            text.append(comma).append(parameter.getName());
            comma = ",";
        }
        return text.append(')').toString();
    }
}
