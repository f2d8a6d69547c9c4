import java.io.File;
import java.io.IOException;
import java.net.URI;
import java.net.URL;
import java.net.URLClassLoader;
import java.nio.charset.StandardCharsets;
import java.nio.file.Files;
import java.nio.file.Path;
import java.util.ArrayList;
import java.util.List;
import java.util.Set;
import java.util.TreeSet;
import java.util.regex.Matcher;
import java.util.regex.Pattern;
import java.util.stream.Stream;
import javax.tools.JavaCompiler;
import javax.tools.JavaFileObject;
import javax.tools.SimpleJavaFileObject;
import javax.tools.ToolProvider;

/** README.md: its calls compile as they stand there and answer what it says; its way to run the tests runs them all. */
public final class ReadmeTest {
    private static final Check check = new Check();
    private static final Path README = Path.of("README.md");
    private static final Pattern CALL = Pattern.compile("x\\.(\\w+)\\(.*\\);\\s*// (-?\\d+)( .*|:.*|)");
    /** Where a call is shown of which README.md does not say what it answers. */
    private static final String IN_A_LOOP = "    x.put(0, i, signs.charAt(i));";

    public static void main(String[] args) throws Exception {
        List<String> shown = shownBlocks("```java");
        shownAnswers(shown);
        allShown(shown);
        constants();
        testsThatRun();
        testsThatAreNamed();
        check.end();
    }

    private static void due(String what, boolean well) {
        check.due(what, well ? 1 : 0, 1);
    }

    /** The lines of all blocks that begin so. */
    private static List<String> shownBlocks(String begin) {
        List<String> shown = new ArrayList<>();
        boolean inside = false;
        for (String line : Doc.lines(README)) {
            if (line.startsWith("```")) {
                inside = line.equals(begin);
            } else if (inside) {
                shown.add(line);
            }
        }
        return shown;
    }

    // ---- the calls

    private static void shownAnswers(List<String> shown) throws Exception {
        StringBuilder asTheyStand = new StringBuilder(), asked = new StringBuilder();
        int calls = 0;
        for (String line : shown) {
            Matcher call = CALL.matcher(line);
            asTheyStand.append(line).append('\n');
            if (call.matches()) {
                calls++;
                String without = line.substring(0, line.indexOf(';'));
                asked.append("due.add(\"").append(without).append("\"); got.add((long) ").append(without)
                    .append("); want.add(").append(call.group(2)).append("L);\n");
            } else {
                due("what it answers is said: " + line, !line.contains("x.") || line.equals(IN_A_LOOP));
                asked.append(line).append('\n');
            }
        }
        due("calls shown", calls > 43);
        String list = "    public static final java.util.List<";
        String text = "public final class Shown {\n" + list + "String> due = new java.util.ArrayList<>();\n" + list
            + "Long> got = new java.util.ArrayList<>();\n" + list + "Long> want = new java.util.ArrayList<>();\n"
            + "    static void asTheyStand() {\n" + asTheyStand + "    }\n"
            + "    public static void asked() {\n" + asked + "    }\n}\n";
        hold(compiled(text), calls);
    }

    private static Path compiled(String text) throws IOException {
        Path out = Files.createTempDirectory("readme");
        JavaCompiler compiler = ToolProvider.getSystemJavaCompiler();
        JavaFileObject source = new SimpleJavaFileObject(URI.create("mem:///Shown.java"), JavaFileObject.Kind.SOURCE) {
            @Override
            public CharSequence getCharContent(boolean ignore) {
                return text;
            }
        };
        List<String> options = List.of("-proc:none", "-d", out.toString(), "-cp", System.getProperty("java.class.path"));
        due("the calls compile", compiler.getTask(null, null, null, options, null, List.of(source)).call());
        return out;
    }

    private static void hold(Path out, int calls) throws Exception {
        try (URLClassLoader loader = new URLClassLoader(new URL[] {out.toUri().toURL()})) {
            Class<?> program = loader.loadClass("Shown");
            program.getMethod("asked").invoke(null);
            List<?> due = (List<?>) program.getField("due").get(null);
            List<?> got = (List<?>) program.getField("got").get(null), want = (List<?>) program.getField("want").get(null);
            check.due("calls made", due.size(), calls);
            for (int k = 0; k < due.size(); k++) {
                check.due("README.md: " + due.get(k), (Long) got.get(k), (Long) want.get(k));
            }
        } finally {
            Files.delete(out.resolve("Shown.class"));
            Files.delete(out);
        }
    }

    private static void allShown(List<String> shown) {
        String all = String.join("\n", shown);
        for (String member : Doc.face()) {
            Matcher call = Pattern.compile("public (?:int|long) (\\w+)\\(.*").matcher(member);
            if (call.matches()) {
                due("shown: " + call.group(1), all.contains("x." + call.group(1) + "("));
            }
        }
    }

    private static void constants() {
        String all = String.join(" ", Doc.lines(README));
        for (String member : Doc.face()) {
            if (member.startsWith("public static final int ")) {
                for (String constant : member.substring("public static final int ".length()).split(", ")) {
                    String[] parts = constant.split(" = ");
                    due("told: " + constant, all.contains("`" + parts[0] + "` (" + parts[1] + ")"));
                }
            }
        }
    }

    // ---- the tests

    private static void testsThatRun() throws Exception {
        String section = String.join("\n", Doc.lines(README)).replaceAll("(?s).*## How to run its tests", "");
        Matcher block = Pattern.compile("```sh\n(.*)\n```").matcher(section);
        due("a way to run the tests is shown", block.find());
        Process process = new ProcessBuilder("sh", "-c", block.group(1) + " list").redirectErrorStream(true).start();
        String told = new String(process.getInputStream().readAllBytes(), StandardCharsets.UTF_8);
        check.due(block.group(1) + " list", process.waitFor(), 0);
        Set<String> run = new TreeSet<>(List.of(told.strip().split("\n")));
        Set<String> there = programs(Path.of("src/test"));
        there.remove("Mutants");
        there.addAll(programs(Path.of("../shared/tests")));
        due("all are run: " + there + ", are: " + run, run.equals(there));
    }

    /** The names of all Java files that can be run by themselves. */
    private static Set<String> programs(Path folder) throws IOException {
        Set<String> names = new TreeSet<>();
        try (Stream<Path> files = Files.walk(folder)) {
            for (Path file : files.toList()) {
                if (file.toString().endsWith(".java") && Files.readString(file).contains("static void main(String")) {
                    names.add(file.getFileName().toString().replace(".java", ""));
                }
            }
        }
        return names;
    }

    private static void testsThatAreNamed() throws IOException {
        Set<String> named = new TreeSet<>();
        Matcher name = Pattern.compile("`(\\w+Test|Model|Mutants)`").matcher(String.join(" ", Doc.lines(README)));
        while (name.find()) {
            named.add(name.group(1));
            due("there is " + name.group(1), new File("src/test/java/" + name.group(1) + ".java").isFile());
        }
        for (String test : programs(Path.of("src/test"))) {
            due("named: " + test, named.contains(test));
        }
    }
}
