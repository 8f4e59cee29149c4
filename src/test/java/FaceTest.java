import java.lang.reflect.Constructor;
import java.lang.reflect.Method;
import java.lang.reflect.Modifier;
import java.util.Arrays;
import java.util.Set;
import java.util.TreeSet;

/** The face stands as the document prints it (rule 1 of LANGUAGE.md), and nothing beside it. */
public final class FaceTest {
    private static final String[] FACE = {
        "int node(int) IllegalArgumentException IllegalStateException",
        "int link(int,int,int,int) IndexOutOfBoundsException IllegalArgumentException IllegalStateException",
        "int up(int,boolean) IndexOutOfBoundsException",
        "int mark(int,boolean,int,boolean) IndexOutOfBoundsException IllegalArgumentException",
        "int route(int,int,int,int,int) IndexOutOfBoundsException IllegalArgumentException IllegalStateException",
        "boolean unroute(int,int) IndexOutOfBoundsException",
        "int talk()",
        "int filter(int,int,int,int,int,int,boolean,boolean) IndexOutOfBoundsException"
            + " IllegalArgumentException IllegalStateException",
        "int unfilter(int) IndexOutOfBoundsException",
        "int translator(int,int,int) IndexOutOfBoundsException IllegalArgumentException",
        "int capture(int,int,int,int,int,int) IndexOutOfBoundsException IllegalArgumentException"
            + " IllegalStateException",
        "int plain(int,int,int,int) IndexOutOfBoundsException IllegalArgumentException",
        "int stream(int,int,int) IndexOutOfBoundsException IllegalArgumentException IllegalStateException",
        "int write(int,int) IndexOutOfBoundsException IllegalArgumentException IllegalStateException",
        "int end(int) IndexOutOfBoundsException IllegalStateException",
        "int run(int) IllegalArgumentException",
        "int ofNode(int,int) IndexOutOfBoundsException IllegalArgumentException",
        "int routeTo(int,int) IndexOutOfBoundsException IllegalArgumentException",
        "int ofRoute(int,int,int) IndexOutOfBoundsException IllegalArgumentException",
        "int ofLink(int,boolean,int) IndexOutOfBoundsException IllegalArgumentException",
        "int ofStream(int,int) IndexOutOfBoundsException IllegalArgumentException",
        "int letter(int,int) IndexOutOfBoundsException",
        "int lost(int) IllegalArgumentException",
        "int captured(int) IndexOutOfBoundsException",
        "int many(int) IllegalArgumentException",
        "double meanTime()",
        "int trace(int,int,int) IndexOutOfBoundsException IllegalArgumentException",
        "int sureIn(int,int) IndexOutOfBoundsException IllegalArgumentException",
        "int lostWithout(int,int) IndexOutOfBoundsException IllegalArgumentException",
        "long digest()",
    };

    public static void main(String[] args) {
        Check check = new Check("FaceTest");
        Set<String> due = new TreeSet<>(Arrays.asList(FACE));
        Set<String> names = new TreeSet<>();
        for (Method method : NetLoom.class.getDeclaredMethods()) {
            if (Modifier.isPublic(method.getModifiers())) {
                names.add(method.getName());
                if (!due.remove(text(method))) {
                    check.fail("not in the document: " + text(method));
                }
            }
        }
        for (String missing : due) {
            check.fail("missing: " + missing);
        }
        hidesTheRest(check, NetLoom.class, names);
        for (Class<?> inside : NetLoom.class.getDeclaredClasses()) {
            check.is(inside + " is static", Modifier.isStatic(inside.getModifiers()), true);
            check.is(inside + " is public", Modifier.isPublic(inside.getModifiers()), false);
        }
        check.is("public and final", NetLoom.class.getModifiers(), Modifier.PUBLIC | Modifier.FINAL);
        for (Constructor<?> constructor : NetLoom.class.getDeclaredConstructors()) {
            check.is("constructor", Modifier.isPublic(constructor.getModifiers())
                    && constructor.getParameterCount() == 0, true);
        }
        check.end();
    }

    private static void hidesTheRest(Check check, Class<?> type, Set<String> publicNames) {
        check.is("fields that are not private", Arrays.stream(type.getDeclaredFields())
                .filter(f -> !Modifier.isPrivate(f.getModifiers())).count(), 0);
        for (Method method : type.getDeclaredMethods()) {
            if (!Modifier.isPublic(method.getModifiers())) {
                check.is(method + " is private", Modifier.isPrivate(method.getModifiers()), true);
                check.is(method + " bears a name of the face", publicNames.contains(method.getName()), false);
            }
        }
    }

    private static String text(Method method) {
        StringBuilder text = new StringBuilder();
        text.append(method.getReturnType().getSimpleName()).append(' ').append(method.getName()).append('(');
        for (int i = 0; i < method.getParameterCount(); i++) {
            text.append(i == 0 ? "" : ",").append(method.getParameterTypes()[i].getSimpleName());
        }
        text.append(')');
        for (Class<?> thrown : method.getExceptionTypes()) {
            text.append(' ').append(thrown.getSimpleName());
        }
        return text.toString();
    }
}
