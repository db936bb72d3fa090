import java.lang.reflect.Constructor;
import java.lang.reflect.Field;
import java.lang.reflect.Method;
import java.lang.reflect.Modifier;
import java.util.NoSuchElementException;
import java.util.Set;
import java.util.TreeSet;

/** The public face is that of the document and nothing more. */
public final class FaceTest {
    private static final String[] METHODS = {
        "boolean ship(int,int,int,int)", "int wagon(int,int,int,int,int)", "boolean tide(int,int,int)",
        "boolean sea(int)", "boolean ramp(int,boolean)", "int ticks(int)", "int feed(int,int,int,int,int)",
        "int end(int)", "int agree(int)", "int place()", "int on(int,int)", "int off(int,int)", "int sail()",
        "int loading(int,int,int)", "int step(int,int)", "int emptying()", "int emptied(int)",
        "boolean isOpen(int)!", "int ferry(int)!", "int deck(int,int)", "int yard(int,int,int)",
        "int of(int,int)", "long count(int)"
    };

    public static void main(String[] args) {
        Set<String> due = new TreeSet<>(Set.of(METHODS));
        for (Method method : TrainFerry.class.getDeclaredMethods()) {
            if (Modifier.isPrivate(method.getModifiers())) {
                Due.no(method.getName() + " is private and bears a public name", bearsPublicName(method));
                continue;
            }
            Due.yes(told(method) + " is of the face", due.remove(told(method)));
            Due.yes(told(method) + " is public", Modifier.isPublic(method.getModifiers()));
        }
        Due.same("methods missing: " + due, due.size(), 0);
        for (Class<?> inside : TrainFerry.class.getDeclaredClasses()) {
            Due.yes(inside.getName() + " is static", Modifier.isStatic(inside.getModifiers()));
            Due.no(inside.getName() + " is public", Modifier.isPublic(inside.getModifiers()));
            for (Method method : inside.getDeclaredMethods()) {
                Due.no(method + " bears a public name", bearsPublicName(method));
            }
        }
        for (Field field : TrainFerry.class.getDeclaredFields()) {
            boolean isNone = field.getName().equals("NONE");
            Due.yes("field " + field.getName(), isNone || Modifier.isPrivate(field.getModifiers()));
        }
        Constructor<?>[] constructors = TrainFerry.class.getDeclaredConstructors();
        Due.same("constructors", constructors.length, 1);
        Due.yes("the constructor is public", Modifier.isPublic(constructors[0].getModifiers()));
        Due.same("its parameters", constructors[0].getParameterCount(), 0);
        Due.yes("the class is final", Modifier.isFinal(TrainFerry.class.getModifiers()));
        Due.same("NONE", TrainFerry.NONE, -1);
        Due.close();
    }

    private static boolean bearsPublicName(Method method) {
        for (String name : METHODS) {
            if (name.contains(" " + method.getName() + "(")) {
                return true;
            }
        }
        return false;
    }

    private static String told(Method method) {
        StringBuilder text = new StringBuilder(method.getReturnType().getName());
        text.append(' ').append(method.getName()).append('(');
        String comma = "";
        for (Class<?> type : method.getParameterTypes()) {
            text.append(comma).append(type.getName());
            comma = ",";
        }
        text.append(')');
        for (Class<?> type : method.getExceptionTypes()) {
            text.append(type == NoSuchElementException.class ? "!" : "?");
        }
        return text.toString();
    }
}
