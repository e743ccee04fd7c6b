import java.lang.reflect.Constructor;
import java.lang.reflect.Field;
import java.lang.reflect.Method;
import java.lang.reflect.Modifier;
import java.util.Set;
import java.util.TreeSet;

/** The public face: the document's code block whole, and nothing beside it. */
public final class FaceTest {
    private static final Probe probe = new Probe("face");
    private static final Set<String> FACE = Set.of(
        "public static final int PatternNodes.NONE",
        "public PatternNodes()",
        "public boolean PatternNodes.put(long,int)",
        "public int PatternNodes.read(int) throws java.lang.IllegalArgumentException",
        "public int PatternNodes.fault(int)",
        "public int PatternNodes.count(int)",
        "public int PatternNodes.node(int,int)",
        "public int PatternNodes.range(int,int,int)",
        "public int PatternNodes.name(int,int)");

    public static void main(String[] args) {
        probe.says("public final class PatternNodes");
        probe.due("class", Modifier.toString(PatternNodes.class.getModifiers()), "public final");
        probe.due("above it", PatternNodes.class.getSuperclass().getName(), "java.lang.Object");
        probe.due("interfaces", PatternNodes.class.getInterfaces().length, 0);

        probe.says("the code block under 'The public face', whole and nothing beside it");
        probe.due("members", openMembers().toString(), new TreeSet<>(FACE).toString());
        for (Class<?> inside : PatternNodes.class.getDeclaredClasses()) {
            int modifiers = inside.getModifiers();
            probe.due(inside + " is static", Modifier.isStatic(modifiers), true);
            probe.due(inside + " is hidden", Modifier.isPublic(modifiers) || Modifier.isProtected(modifiers), false);
        }

        probe.says("NONE = -1");
        probe.due("NONE", PatternNodes.NONE, -1);
        probe.end();
    }

    /** All members that are not private. */
    private static Set<String> openMembers() {
        Set<String> open = new TreeSet<>();
        for (Field field : PatternNodes.class.getDeclaredFields()) {
            if (!Modifier.isPrivate(field.getModifiers())) {
                open.add(field.toString());
            }
        }
        for (Constructor<?> constructor : PatternNodes.class.getDeclaredConstructors()) {
            if (!Modifier.isPrivate(constructor.getModifiers())) {
                open.add(constructor.toString());
            }
        }
        for (Method method : PatternNodes.class.getDeclaredMethods()) {
            if (!Modifier.isPrivate(method.getModifiers())) {
                open.add(method.toString());
            }
        }
        return open;
    }
}
