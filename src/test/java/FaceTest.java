import java.lang.reflect.Constructor;
import java.lang.reflect.Field;
import java.lang.reflect.Method;
import java.lang.reflect.Modifier;
import java.nio.file.Files;
import java.nio.file.Path;
import java.util.Set;
import java.util.TreeSet;

/** The public face of the document, and of LANGUAGE.md what can be seen without a parser. */
public final class FaceTest {
    private static final Set<String> FACE = Set.of(
        "public static final int MicroEight.NONE",
        "public MicroEight(int)",
        "public void MicroEight.init()",
        "public boolean MicroEight.deposit(int,int)",
        "public int MicroEight.examine(int)",
        "public boolean MicroEight.load(int,int,long)",
        "public boolean MicroEight.start(int)",
        "public void MicroEight.switches(int)",
        "public void MicroEight.key(int)",
        "public int MicroEight.microStep()",
        "public int MicroEight.step()",
        "public int MicroEight.run(int)",
        "public int MicroEight.look(int)",
        "public int MicroEight.printed(int)");
    private static final String[] RULED_OUT = {
        "import ", "package ", "->", "::", "synchronized", "assert ", "finally", "System.out", "String", "try ", "throw "
    };

    public static void main(String[] args) throws Exception {
        face();
        classesInside();
        source();
        Check.due("NONE", MicroEight.NONE, -1);
        Check.finish();
    }

    private static void face() {
        Set<String> visible = new TreeSet<>();
        Set<String> publicNames = new TreeSet<>();
        for (Field f : MicroEight.class.getDeclaredFields()) {
            if (!Modifier.isPrivate(f.getModifiers())) {
                visible.add(f.toString());
            }
        }
        for (Constructor<?> c : MicroEight.class.getDeclaredConstructors()) {
            if (!Modifier.isPrivate(c.getModifiers())) {
                visible.add(c.toString());
            }
        }
        for (Method m : MicroEight.class.getDeclaredMethods()) {
            if (!Modifier.isPrivate(m.getModifiers())) {
                visible.add(m.toString());
                publicNames.add(m.getName());
            }
        }
        Check.due("the face is " + visible + ", which", visible.equals(FACE), true);
        privateMethods(MicroEight.class, publicNames);
        for (Class<?> inside : MicroEight.class.getDeclaredClasses()) {
            privateMethods(inside, publicNames);
        }
        Check.due("public", Modifier.isPublic(MicroEight.class.getModifiers()), true);
        Check.due("final", Modifier.isFinal(MicroEight.class.getModifiers()), true);
        Check.due("extends nothing", MicroEight.class.getSuperclass() == Object.class, true);
        Check.due("implements nothing", MicroEight.class.getInterfaces().length, 0);
    }

    private static void privateMethods(Class<?> c, Set<String> publicNames) {
        for (Method m : c.getDeclaredMethods()) {
            boolean hidden = Modifier.isPrivate(m.getModifiers());
            Check.due("a private method with the public name " + m.getName(), hidden && publicNames.contains(m.getName()), false);
            Check.due(m.getName() + " takes at most seven parameters", m.getParameterCount() <= 7, true);
        }
    }

    private static void classesInside() {
        Check.due("at most twelve classes", MicroEight.class.getDeclaredClasses().length <= 11, true);
        staticState(MicroEight.class);
        for (Class<?> inside : MicroEight.class.getDeclaredClasses()) {
            int m = inside.getModifiers();
            Check.due(inside + " is static", Modifier.isStatic(m), true);
            Check.due(inside + " is hidden", Modifier.isPublic(m) || Modifier.isProtected(m), false);
            staticState(inside);
        }
    }

    private static void staticState(Class<?> c) {
        int held = 0;
        for (Field f : c.getDeclaredFields()) {
            boolean isStatic = Modifier.isStatic(f.getModifiers());
            Check.due(f + " is static and not final", isStatic && !Modifier.isFinal(f.getModifiers()), false);
            held += isStatic ? 0 : 1;
        }
        Check.due(c + " has at most twenty fields", held <= 20, true);
    }

    private static void source() throws Exception {
        String text = Files.readString(Path.of("src/main/java/MicroEight.java"));
        for (String word : RULED_OUT) {
            Check.due("the source has '" + word + "'", text.contains(word), false);
        }
    }
}
