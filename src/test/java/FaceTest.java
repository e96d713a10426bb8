import java.lang.reflect.Constructor;
import java.lang.reflect.Field;
import java.lang.reflect.Member;
import java.lang.reflect.Method;
import java.lang.reflect.Modifier;
import java.util.Set;
import java.util.TreeSet;

/** Section 'The public face': the class has what stands there, and shows nothing else; members by LANGUAGE.md. */
public final class FaceTest {
    private static final String[] FACE = {
        "public EmbedForge()",
        "public int EmbedForge.text(long) throws IllegalArgumentException,IllegalStateException",
        "public int EmbedForge.clear()",
        "public int EmbedForge.compile() throws IllegalArgumentException,UnsupportedOperationException",
        "public int EmbedForge.where()",
        "public int EmbedForge.way(int,int) throws IllegalArgumentException,java.util.NoSuchElementException",
        "public int EmbedForge.actions(int,int) throws IllegalArgumentException,java.util.NoSuchElementException",
        "public int EmbedForge.state(int,int) throws IllegalArgumentException,java.util.NoSuchElementException",
        "public int EmbedForge.feed(int) throws IllegalArgumentException,IllegalStateException,"
            + "UnsupportedOperationException",
        "public int EmbedForge.end() throws IllegalStateException,UnsupportedOperationException",
        "public int EmbedForge.jump(int) throws IllegalStateException,java.util.NoSuchElementException",
        "public int EmbedForge.count(int) throws IllegalArgumentException",
    };

    private FaceTest() {
    }

    public static void main(String[] args) {
        Check.about("The public face", "public final class EmbedForge");
        int modifiers = EmbedForge.class.getModifiers();
        Check.same("the class", "public final", Modifier.toString(modifiers));
        Check.same("its package", "", EmbedForge.class.getPackageName());
        Check.same("its members", new TreeSet<>(Set.of(FACE)).toString(), shown().toString());
        for (Class<?> inside : EmbedForge.class.getDeclaredClasses()) {
            boolean hidden = !Modifier.isPublic(inside.getModifiers()) && !Modifier.isProtected(inside.getModifiers());
            Check.same(inside.getName(), "hidden and static",
                    (hidden ? "hidden" : "shown") + (Modifier.isStatic(inside.getModifiers()) ? " and static" : ""));
        }
        hiddenMembers(EmbedForge.class);
        for (Class<?> inside : EmbedForge.class.getDeclaredClasses()) {
            hiddenMembers(inside);
        }
        Check.finish();
    }

    private static void hiddenMembers(Class<?> each) {
        Check.about("LANGUAGE.md, rule 1", "No private method bears the name of a public one.");
        Set<String> publicNames = new TreeSet<>();
        for (Method method : EmbedForge.class.getMethods()) {
            publicNames.add(method.getName());
        }
        for (Method method : each.getDeclaredMethods()) {
            if (!Modifier.isPublic(method.getModifiers())) {
                Check.same(method.toString(), "a name of its own",
                        publicNames.contains(method.getName()) ? "the name of a public one" : "a name of its own");
            }
        }
        Check.about("LANGUAGE.md, rule 5", "Static fields are final");
        for (Field field : each.getDeclaredFields()) {
            boolean changes = Modifier.isStatic(field.getModifiers()) && !Modifier.isFinal(field.getModifiers());
            Check.same(field.toString(), "no static state", changes ? "static and not final" : "no static state");
        }
    }

    private static TreeSet<String> shown() {
        TreeSet<String> shown = new TreeSet<>();
        for (Constructor<?> each : EmbedForge.class.getDeclaredConstructors()) {
            add(shown, each, each.toString());
        }
        for (Method each : EmbedForge.class.getDeclaredMethods()) {
            add(shown, each, each.toString());
        }
        for (Field each : EmbedForge.class.getDeclaredFields()) {
            add(shown, each, each.toString());
        }
        return shown;
    }

    private static void add(Set<String> shown, Member member, String text) {
        if (!Modifier.isPrivate(member.getModifiers()) && !member.isSynthetic()) {
            shown.add(text.replace("java.lang.", ""));
        }
    }
}
