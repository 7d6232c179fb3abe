import java.io.IOException;
import java.nio.file.Files;
import java.nio.file.Path;
import java.util.ArrayList;
import java.util.List;
import java.util.regex.Matcher;
import java.util.regex.Pattern;

/** What README.md says holds: its calls answer what stands behind them, its commands run, its names are there. */
public final class ReadmeTest {
    private static final Path OWN = Path.of("build", "readme");
    private static final Pattern CALL = Pattern.compile("(int (\\w+) = )?(hall\\.\\w+\\(.*\\)); +// .*: (-?\\d+)");

    public static void main(String[] args) throws Exception {
        String page = Files.readString(Path.of("README.md"));
        Files.createDirectories(OWN);
        callsAnswer(page);
        commandsRun(page);
        namesAreThere(page);
        Due.end();
    }

    /** The block of Java is compiled as it stands, but that each answer is compared with what stands behind it. */
    private static void callsAnswer(String page) throws Exception {
        Matcher block = Pattern.compile("```java\n(.*?)```", Pattern.DOTALL).matcher(page);
        Due.isTrue("a block of Java", block.find());
        StringBuilder program = new StringBuilder("public final class Example {\n    public static void main(String[] a) {\n");
        int calls = 0;
        for (String line : block.group(1).split("\n")) {
            Matcher call = CALL.matcher(line);
            boolean isTold = call.matches();
            Due.isTrue("told what it answers: " + line, isTold || !line.startsWith("hall."));
            if (isTold) {
                calls++;
                String what = call.group(1) == null ? call.group(3) : call.group(2);
                program.append(call.group(1) == null ? "" : line + "\n");
                program.append("Due.is(\"" + call.group(3) + "\", " + what + ", " + call.group(4) + ");\n");
            } else {
                program.append(line).append("\n");
            }
        }
        Due.isTrue("calls", calls > 10);
        Files.writeString(OWN.resolve("Example.java"), program + "Due.end();\n    }\n}\n");
        runs("javac -d build/readme src/main/java/NobodyCanLiftIt.java src/test/java/Due.java build/readme/Example.java");
        runs("java -cp build/readme Example");
    }

    /** One test by hand, in a folder of its own, as another test may be running in build/own. */
    private static void commandsRun(String page) throws Exception {
        List<String> commands = new ArrayList<>();
        for (String line : page.split("\n")) {
            if (line.matches(" {4}(javac?|\\.ci/run).*") && !line.contains("//")) {
                commands.add(line.trim());
            }
        }
        Due.is("commands", commands.size(), 3);
        Due.isTrue("the first runs all", commands.get(0).equals(".ci/run") && Files.isExecutable(Path.of(".ci", "run")));
        for (String command : commands.subList(1, commands.size())) {
            Due.isTrue("into build/own: " + command, command.contains(" build/own "));
            runs(command.replace("build/own", "build/readme"));
        }
    }

    private static void runs(String command) throws IOException, InterruptedException {
        Process p = new ProcessBuilder("sh", "-c", command).redirectErrorStream(true).start();
        String said = new String(p.getInputStream().readAllBytes());
        int end = p.waitFor();
        Due.is(command, end, 0);
        if (end != 0) {
            System.out.println(said);
        }
    }

    /** Each call of the face stands in the table; each file that is named is there. */
    private static void namesAreThere(String page) {
        for (java.lang.reflect.Method m : NobodyCanLiftIt.class.getMethods()) {
            if (m.getDeclaringClass() == NobodyCanLiftIt.class) {
                Due.isTrue("named: " + m.getName(), page.contains("`" + m.getName() + "`"));
            }
        }
        Matcher test = Pattern.compile("`(\\w+Test)`").matcher(page);
        while (test.find()) {
            Due.isTrue("there: " + test.group(1), Files.exists(Path.of("src/test/java", test.group(1) + ".java")));
        }
        Matcher file = Pattern.compile("`([\\w./]+/[\\w./]+)`").matcher(page);
        while (file.find()) {
            Due.isTrue("there: " + file.group(1), Files.exists(Path.of(file.group(1))));
        }
    }
}
