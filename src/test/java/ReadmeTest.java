import java.lang.reflect.Method;
import java.lang.reflect.Modifier;
import java.nio.file.Files;
import java.nio.file.Path;

/** README.md says how to use the class: its example does what it says, and it names every call. */
public final class ReadmeTest {
    private static final String[] EXAMPLE = {
        "MicroEight x = new MicroEight(10);",
        "x.init();",
        "x.load(0200, 3, 07604_6046_7402L);",
        "x.switches('A');",
        "x.start(0200);",
        "x.run(500);                          // 3:",
        "x.printed(0);                        // 65",
        "x.look(8);                           // 20:"
    };

    public static void main(String[] args) throws Exception {
        String text = Files.readString(Path.of("README.md"));
        example(text);
        names(text);
        Check.due("it says how to run the tests", text.contains("\n.ci/run\n"), true);
        testsNamed(text);
        Check.finish();
    }

    private static void example(String text) {
        int from = 0;
        for (String line : EXAMPLE) {
            int at = text.indexOf("\n" + line, from);
            Check.due("the example has, in its place, '" + line + "'", at >= 0, true);
            from = Math.max(at, 0) + 1;
        }
        MicroEight x = new MicroEight(10);
        x.init();
        Check.due("load", x.load(0200, 3, 07604_6046_7402L), true);
        x.switches('A');
        Check.due("start", x.start(0200), true);
        Check.due("run(500)", x.run(500), 3);
        Check.due("printed(0)", x.printed(0), 65);
        Check.due("look(8)", x.look(8), 20);
    }

    private static void names(String text) {
        for (Method m : MicroEight.class.getDeclaredMethods()) {
            if (Modifier.isPublic(m.getModifiers())) {
                Check.due("a row for " + m.getName(), text.contains(" | `" + m.getName() + "("), true);
            }
        }
        Check.due("a row for the constructor", text.contains(" | `new MicroEight("), true);
        Check.due("NONE", text.contains("`MicroEight.NONE`"), true);
    }

    private static void testsNamed(String text) throws Exception {
        try (var files = Files.list(Path.of("src/test/java"))) {
            for (Path file : files.sorted().toList()) {
                String name = file.getFileName().toString().replace(".java", "");
                if (name.endsWith("Test")) {
                    Check.due("it names the test " + name, text.contains("`" + name + "`"), true);
                }
            }
        }
    }
}
