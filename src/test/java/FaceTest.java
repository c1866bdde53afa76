import java.lang.reflect.Field;
import java.lang.reflect.Member;
import java.lang.reflect.Method;
import java.lang.reflect.Modifier;
import java.util.Arrays;
import java.util.List;
import java.util.Set;
import java.util.TreeSet;

/** The public face: every member of the document and no other that is not private; and what LANGUAGE.md asks of all. */
public final class FaceTest {
    private static final List<String> FACE = List.of(
        "int submit(int, int, int)", "int client()", "boolean deliver(int, int, int)", "int flood(int)",
        "boolean tick(int, int)", "boolean sleep(int, int, boolean)", "boolean lie(int, int, int, int, int)",
        "int messages(int)", "int message(int, int, int)", "int replica(int, int, int)", "int executed(int, int, int)",
        "int output(int, int, int)", "int value(int, int)", "int requests()", "int request(int, int)",
        "int transaction(int)");

    public static void main(String[] args) {
        Due due = new Due("FaceTest");
        due.yes("final class", Modifier.isFinal(ShardLedger.class.getModifiers()));
        due.is("BAD", ShardLedger.BAD, -1);
        due.is("FULL", ShardLedger.FULL, -2);
        Set<String> methods = new TreeSet<>();
        for (Method m : ShardLedger.class.getDeclaredMethods()) {
            if (isOpen(m)) {
                String parameters = Arrays.toString(m.getParameterTypes());
                methods.add(m.getReturnType() + " " + m.getName() + "(" + parameters.substring(1, parameters.length() - 1) + ")");
                due.yes(m.getName() + " is public", Modifier.isPublic(m.getModifiers()));
            }
        }
        due.yes("methods " + methods, methods.equals(new TreeSet<>(FACE)));
        Set<String> fields = new TreeSet<>();
        for (Field f : ShardLedger.class.getDeclaredFields()) {
            if (isOpen(f)) {
                fields.add(f.getName());
            }
        }
        due.yes("fields " + fields, fields.equals(new TreeSet<>(List.of("BAD", "FULL"))));
        due.is("constructors", ShardLedger.class.getDeclaredConstructors().length, 1);
        for (Class<?> inside : ShardLedger.class.getDeclaredClasses()) {
            boolean hidden = !Modifier.isPublic(inside.getModifiers()) && !Modifier.isProtected(inside.getModifiers());
            due.yes(inside.getName() + " is hidden and static", hidden && Modifier.isStatic(inside.getModifiers()));
            members(due, inside);
        }
        members(due, ShardLedger.class);
        due.end();
    }

    /** Rules 1, 5 and 11 of LANGUAGE.md. */
    private static void members(Due due, Class<?> each) {
        for (Method m : each.getDeclaredMethods()) {
            boolean takesAName = Modifier.isPrivate(m.getModifiers()) && FACE.stream().anyMatch(f -> f.contains(" " + m.getName() + "("));
            due.no(each.getName() + "." + m.getName() + " bears a name of the face", takesAName);
            due.yes(each.getName() + "." + m.getName() + " takes at most seven parameters", m.getParameterCount() <= 7);
        }
        for (Field f : each.getDeclaredFields()) {
            int is = f.getModifiers();
            due.yes(each.getName() + "." + f.getName() + " is final if static", !Modifier.isStatic(is) || Modifier.isFinal(is));
        }
    }

    private static boolean isOpen(Member member) {
        return !Modifier.isPrivate(member.getModifiers()) && !member.isSynthetic();
    }
}
