import java.lang.reflect.Constructor;
import java.lang.reflect.Field;
import java.lang.reflect.Method;
import java.lang.reflect.Modifier;
import java.util.Arrays;
import java.util.Set;
import java.util.TreeSet;

/** The public face is the document's, and nothing of the class can be seen beside it. */
public final class FaceTest {
    private static final String[] FACE = {
        "about(int,int,int):int", "again(int,int):void", "carry(int):void", "drop(int):void",
        "leave(int,int):boolean", "lost():int", "member(int,int,int):void", "message(int,int):int",
        "messages():int", "press(int,int,boolean):int", "relay(int,int):int", "release(int,int):void",
        "rules(int,boolean,int,int,int):void", "run(int):int", "server(int,int):int", "tick():int",
        "twice(int):void", "unit(int,int,int):int", "waiting(int,int):int"
    };

    public static void main(String[] args) {
        int modifiers = TalkNet.class.getModifiers();
        Check.due("the class is public", Modifier.isPublic(modifiers), true);
        Check.due("the class is final", Modifier.isFinal(modifiers), true);
        constructors();
        methods();
        fields();
        Check.end();
    }

    private static void constructors() {
        Constructor<?>[] made = TalkNet.class.getDeclaredConstructors();
        Check.due("constructors", made.length, 1);
        Check.due("the constructor is public", Modifier.isPublic(made[0].getModifiers()), true);
        Check.due("the constructor's parameters", made[0].getParameterCount(), 0);
    }

    private static void methods() {
        Set<String> seen = new TreeSet<>();
        Set<String> publicNames = new TreeSet<>();
        Set<String> privateNames = new TreeSet<>();
        for (Method m : TalkNet.class.getDeclaredMethods()) {
            if (m.isSynthetic()) {
                continue;
            }
            if (Modifier.isPrivate(m.getModifiers())) {
                privateNames.add(m.getName());
                continue;
            }
            publicNames.add(m.getName());
            Check.due(m.getName() + " is public and of an object", m.getModifiers(), Modifier.PUBLIC);
            seen.add(m.getName() + parameters(m) + ":" + m.getReturnType().getName());
        }
        Check.due("methods", seen, new TreeSet<>(Arrays.asList(FACE)));
        for (Class<?> inside : TalkNet.class.getDeclaredClasses()) {
            int shown = inside.getModifiers() & (Modifier.PUBLIC | Modifier.PROTECTED);
            Check.due(inside.getName() + " is neither public nor protected", shown, 0);
            for (Method m : inside.getDeclaredMethods()) {
                if (Modifier.isPrivate(m.getModifiers()) && !m.isSynthetic()) {
                    privateNames.add(m.getName());
                }
            }
        }
        privateNames.retainAll(publicNames);
        Check.due("names that private methods share with public ones", privateNames, new TreeSet<String>());
    }

    private static String parameters(Method m) {
        StringBuilder text = new StringBuilder("(");
        for (Class<?> type : m.getParameterTypes()) {
            text.append(text.length() == 1 ? "" : ",").append(type.getName());
        }
        return text.append(")").toString();
    }

    private static void fields() {
        for (Field f : TalkNet.class.getDeclaredFields()) {
            Check.due(f.getName() + " is private", Modifier.isPrivate(f.getModifiers()), true);
        }
    }
}
