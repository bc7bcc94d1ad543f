import java.io.File;
import java.io.IOException;
import java.lang.reflect.Method;
import java.lang.reflect.Modifier;
import java.net.URL;
import java.net.URLClassLoader;
import java.nio.file.Files;
import java.nio.file.Path;
import java.util.ArrayList;
import java.util.List;
import java.util.regex.Matcher;
import java.util.regex.Pattern;

/** What README.md says holds: it is run from the directory of that page. */
public final class GuildFundReadme {
    /** A call, and behind it what it answers. */
    private static final Pattern TOLD = Pattern.compile("(fund\\.\\w+\\(.*\\)); *// (-?\\d+(?:\\.\\d+)?|NaN)(f?)(?::.*)?");
    private static final int FEWEST_CALLS = 20;

    private static int wrong = 0;

    private static void fault(String what) {
        wrong++;
        System.out.println("README.md: " + what);
    }

    /** Called by the class that is made of the example. */
    public static void due(String call, Object got, String want) {
        if (!String.valueOf(got).equals(want)) fault(call + " answered " + got + ", the page says " + want);
    }

    public static void main(String[] args) throws Exception {
        List<String> page = Files.readAllLines(Path.of("README.md"));
        checkExample(exampleOf(page));
        checkNames(String.join("\n", page));
        System.out.println(wrong == 0 ? "README.md holds" : wrong + " faults");
        if (wrong != 0) System.exit(1);
    }

    private static List<String> exampleOf(List<String> page) {
        List<String> example = new ArrayList<>();
        boolean inside = false;
        for (String line : page) {
            if (inside && line.equals("```")) return example;
            if (inside) example.add(line);
            if (line.equals("```java")) inside = true;
        }
        fault("there is no example");
        return example;
    }

    private static void checkExample(List<String> example) throws Exception {
        StringBuilder program = new StringBuilder("public final class Example {\npublic static void run() {\n");
        int calls = 0;
        for (String line : example) {
            Matcher told = TOLD.matcher(line);
            if (told.matches()) {
                calls++;
                program.append("GuildFundReadme.due(\"").append(told.group(1).replace("\"", "\\\"")).append("\", ");
                program.append(told.group(1)).append(", \"").append(told.group(2)).append("\");\n");
            } else {
                if (line.startsWith("fund.")) fault("no answer stands behind " + line);
                program.append(line).append('\n');
            }
        }
        if (calls < FEWEST_CALLS) fault("only " + calls + " calls of the example tell their answers");
        run(program.append("}\n}\n").toString());
    }

    private static void run(String program) throws Exception {
        Path folder = Files.createTempDirectory("example");
        Path source = folder.resolve("Example.java");
        try {
            Files.writeString(source, program);
            String classes = System.getProperty("java.class.path");
            String[] command = {"javac", "-cp", classes, "-d", folder.toString(), source.toString()};
            if (new ProcessBuilder(command).inheritIO().start().waitFor() != 0) {
                fault("the example does not compile");
                return;
            }
            URL[] places = {folder.toUri().toURL()};
            try (URLClassLoader loader = new URLClassLoader(places, GuildFundReadme.class.getClassLoader())) {
                loader.loadClass("Example").getMethod("run").invoke(null);
            }
        } finally {
            remove(folder);
        }
    }

    private static void remove(Path folder) throws IOException {
        File[] files = folder.toFile().listFiles();
        if (files != null) {
            for (File file : files) Files.delete(file.toPath());
        }
        Files.delete(folder);
    }

    private static void checkNames(String page) {
        for (Method method : GuildFund.class.getDeclaredMethods()) {
            boolean open = Modifier.isPublic(method.getModifiers());
            if (open && !page.contains("`" + method.getName() + "`")) fault("it does not name " + method.getName());
        }
        File[] tests = new File("src/test/java").listFiles();
        if (tests == null || tests.length == 0) {
            fault("the tests are not found: this runs from the directory of the page");
            return;
        }
        for (File test : tests) {
            String name = test.getName().replace(".java", "");
            if (!page.contains("- `" + name + "`:")) fault("it does not name " + name);
        }
    }
}
