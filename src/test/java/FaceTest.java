import java.lang.reflect.Constructor;
import java.lang.reflect.Executable;
import java.lang.reflect.Field;
import java.lang.reflect.Method;
import java.lang.reflect.Modifier;
import java.lang.reflect.Parameter;
import java.util.Arrays;
import java.util.Set;
import java.util.TreeSet;
import java.util.stream.Collectors;

/**
 * "The public face": each constructor and method as it stands in the document, and no other member that can be seen
 * (LANGUAGE.md, rule 1). Parameters have their names only if the class is compiled with -parameters, as .ci/run does.
 */
public final class FaceTest {
    private static final String FACE = """
            public TalkNet();
            public void rules(int group, boolean preempts, int longest, int idle, int grace) throws NoSuchElementException, IllegalArgumentException;
            public void member(int group, int member, int priority) throws NoSuchElementException, IllegalArgumentException;
            public boolean leave(int group, int member) throws NoSuchElementException;
            public int press(int group, int member, boolean emergency) throws NoSuchElementException, IllegalStateException;
            public void again(int group, int member) throws NoSuchElementException, IllegalStateException;
            public void release(int group, int member) throws NoSuchElementException, IllegalStateException;
            public int unit(int group, int member, int value) throws NoSuchElementException, IllegalStateException, UnsupportedOperationException;
            public int messages();
            public int message(int k, int what) throws NoSuchElementException, IndexOutOfBoundsException;
            public void carry(int k) throws NoSuchElementException;
            public void twice(int k) throws NoSuchElementException;
            public void drop(int k) throws NoSuchElementException;
            public int run(int n) throws IllegalArgumentException;
            public int tick();
            public int server(int group, int what) throws NoSuchElementException, IndexOutOfBoundsException;
            public int waiting(int group, int place) throws NoSuchElementException, IndexOutOfBoundsException;
            public int relay(int group, int what) throws NoSuchElementException, IndexOutOfBoundsException;
            public int about(int group, int member, int what) throws NoSuchElementException, IndexOutOfBoundsException;
            public int lost();
            """;

    public static void main(String[] args) {
        theClass();
        eachAsItStands();
        noOtherMember();
        classesInside();
        privateNames();
        Check.end();
    }

    private static void theClass() {
        Class<?> face = TalkNet.class;
        Check.due("the class", Modifier.toString(face.getModifiers()) + " class " + face.getName(), "public final class TalkNet");
        Check.due("what it extends", face.getSuperclass(), Object.class);
        Check.due("what it implements", face.getInterfaces().length, 0);
        Check.due("its type parameters", face.getTypeParameters().length, 0);
    }

    private static void eachAsItStands() {
        Set<String> seen = new TreeSet<>();
        for (Constructor<?> made : TalkNet.class.getConstructors()) {
            seen.add(Modifier.toString(made.getModifiers()) + " " + made.getName() + rest(made));
        }
        for (Method m : TalkNet.class.getDeclaredMethods()) {
            if (Modifier.isPublic(m.getModifiers())) {
                seen.add(Modifier.toString(m.getModifiers()) + " " + m.getReturnType().getSimpleName() + " " + m.getName() + rest(m));
            }
        }
        Set<String> due = new TreeSet<>(Arrays.asList(FACE.split("\n")));
        for (String line : due) {
            Check.due(line, seen.contains(line), true);
        }
        seen.removeAll(due);
        Check.due("public and not of the document", seen, new TreeSet<String>());
    }

    private static String rest(Executable of) {
        String parameters = Arrays.stream(of.getParameters()).map(FaceTest::parameter).collect(Collectors.joining(", "));
        String thrown = Arrays.stream(of.getExceptionTypes()).map(Class::getSimpleName).collect(Collectors.joining(", "));
        return "(" + parameters + ")" + (thrown.isEmpty() ? "" : " throws " + thrown) + ";";
    }

    private static String parameter(Parameter of) {
        return of.getType().getSimpleName() + " " + of.getName();
    }

    private static boolean isPublicOrPrivate(int modifiers) {
        return Modifier.isPublic(modifiers) || Modifier.isPrivate(modifiers);
    }

    /** "no other public, protected or package-visible member": the public ones are looked at above. */
    private static void noOtherMember() {
        for (Constructor<?> made : TalkNet.class.getDeclaredConstructors()) {
            Check.due(made + " is public or private", isPublicOrPrivate(made.getModifiers()), true);
        }
        for (Method m : TalkNet.class.getDeclaredMethods()) {
            Check.due(m + " is public or private", isPublicOrPrivate(m.getModifiers()), true);
        }
        for (Field f : TalkNet.class.getDeclaredFields()) {
            Check.due(f + " is private", Modifier.isPrivate(f.getModifiers()), true);
        }
    }

    /** "the classes inside it, which are private or package-visible and static" */
    private static void classesInside() {
        for (Class<?> inside : TalkNet.class.getDeclaredClasses()) {
            int modifiers = inside.getModifiers();
            Check.due(inside + " is neither public nor protected", modifiers & (Modifier.PUBLIC | Modifier.PROTECTED), 0);
            Check.due(inside + " is static", Modifier.isStatic(modifiers), true);
        }
    }

    /** "No private method bears the name of a public one." */
    private static void privateNames() {
        Set<String> shared = new TreeSet<>();
        addNames(TalkNet.class, shared);
        for (Class<?> inside : TalkNet.class.getDeclaredClasses()) {
            addNames(inside, shared);
        }
        Set<String> publicNames = new TreeSet<>();
        for (Method m : TalkNet.class.getDeclaredMethods()) {
            if (Modifier.isPublic(m.getModifiers())) {
                publicNames.add(m.getName());
            }
        }
        shared.retainAll(publicNames);
        Check.due("names that private methods share with public ones", shared, new TreeSet<String>());
    }

    private static void addNames(Class<?> of, Set<String> names) {
        for (Method m : of.getDeclaredMethods()) {
            if (Modifier.isPrivate(m.getModifiers())) {
                names.add(m.getName());
            }
        }
    }
}
