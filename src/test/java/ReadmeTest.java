import java.io.ByteArrayOutputStream;
import java.io.File;
import java.io.IOException;
import java.lang.reflect.Method;
import java.lang.reflect.Modifier;
import java.nio.file.Files;
import java.nio.file.Path;
import java.util.ArrayList;
import java.util.Comparator;
import java.util.List;
import java.util.regex.Matcher;
import java.util.regex.Pattern;
import java.util.stream.Stream;

/** What README.md says holds: the calls that it shows answer so, and the ways in which it runs tests run them. */
public final class ReadmeTest {
    private static final Check CHECK = new Check();
    private static final Pattern BLOCK = Pattern.compile("(?ms)^```(java|sh)\n(.*?)^```$");
    private static final Pattern CALL = Pattern.compile("(quay\\.\\w+\\(.*\\)); +// (-?\\d+)(: .*)?");
    private static final String CI = ".ci/run\n";

    private final Path folder;

    private ReadmeTest(Path folder) {
        this.folder = folder;
    }

    public static void main(String[] args) throws Exception {
        Path folder = Files.createTempDirectory("readme");
        try {
            new ReadmeTest(folder).all(Files.readString(Path.of("README.md")));
        } finally {
            remove(folder);
        }
        CHECK.finish();
    }

    private static void remove(Path folder) throws IOException {
        List<Path> files;
        try (Stream<Path> all = Files.walk(folder)) {
            files = all.sorted(Comparator.reverseOrder()).toList();
        }
        for (Path file : files) {
            Files.delete(file);
        }
    }

    private void all(String readme) throws Exception {
        List<String> shown = new ArrayList<>();
        List<String> scripts = new ArrayList<>();
        Matcher m = BLOCK.matcher(readme);
        while (m.find()) {
            (m.group(1).equals("java") ? shown : scripts).add(m.group(2));
        }
        everyMethodIsShown(String.join("", shown));
        callsAnswerAsShown(shown);
        waysToRunTestsRunThem(scripts);
    }

    private static void everyMethodIsShown(String shown) {
        CHECK.part("README.md shows every method");
        for (Method method : LetterQuay.class.getDeclaredMethods()) {
            if (Modifier.isPublic(method.getModifiers())) {
                CHECK.so(method.getName(), shown.contains("quay." + method.getName() + "("));
            }
        }
    }

    /** Each block is a method of a program of its own, in which each call with an answer behind it is looked at. */
    private void callsAnswerAsShown(List<String> blocks) throws Exception {
        CHECK.part("README.md's calls");
        StringBuilder program = new StringBuilder("public final class Shown {\n    static int asked = 0, wrong = 0;\n");
        StringBuilder main = new StringBuilder();
        int calls = 0;
        for (int i = 0; i < blocks.size(); i++) {
            if (blocks.get(i).startsWith("static ")) {
                program.append(blocks.get(i));
                continue;
            }
            program.append("    static void block").append(i).append("() {\n");
            main.append("        block").append(i).append("();\n");
            for (String line : blocks.get(i).split("\n")) {
                Matcher call = CALL.matcher(line);
                boolean told = call.matches();
                CHECK.so("an answer behind each call: " + line, told || !line.startsWith("quay."));
                calls += told ? 1 : 0;
                program.append(told ? due(call.group(1), call.group(2)) : line).append('\n');
            }
            program.append("    }\n");
        }
        program.append("    static void due(String call, long got, long want) {\n        asked++;\n")
            .append("        if (got != want) {\n            wrong++;\n")
            .append("            System.out.println(call + \" answered \" + got + \", README.md says \" + want);\n        }\n    }\n")
            .append("    public static void main(String[] args) {\n").append(main)
            .append("        System.out.println(asked + \" calls\");\n        System.exit(wrong == 0 ? 0 : 1);\n    }\n}\n");
        CHECK.so("there are calls", calls > 43);
        Files.writeString(folder.resolve("Shown.java"), program.toString());
        String made = folder.resolve("shown").toString();
        String out = run("javac -d '" + made + "' src/main/java/LetterQuay.java '" + folder.resolve("Shown.java")
            + "' && java -cp '" + made + "' Shown");
        CHECK.so("all of them answer as it says", out.contains(calls + " calls\n"));
    }

    private static String due(String call, String answer) {
        return "due(\"" + call + "\", " + call + ", " + answer + "L);";
    }

    private void waysToRunTestsRunThem(List<String> scripts) throws Exception {
        CHECK.part("README.md's ways to run tests");
        // That one runs this test, too, and would never end from here.
        CHECK.so(".ci/run is the first", !scripts.isEmpty() && scripts.get(0).equals(CI));
        CHECK.so(".ci/run can be run", new File(".ci/run").canExecute());
        for (String script : scripts) {
            if (!script.equals(CI)) {
                CHECK.so(script + " tells that all answers are due",
                    Pattern.compile("^\\d+ answers, 0 of them wrong$|^all answers are as due$", Pattern.MULTILINE).matcher(run(script)).find());
            }
        }
    }

    /** What a script prints; that it ends with exit code 0 is looked at here. */
    private String run(String script) throws Exception {
        ProcessBuilder shell = new ProcessBuilder("sh", "-e", "-c", script).redirectErrorStream(true);
        shell.environment().put("TMPDIR", folder.toString());
        Process process = shell.start();
        process.getOutputStream().close();
        ByteArrayOutputStream told = new ByteArrayOutputStream();
        process.getInputStream().transferTo(told);
        int code = process.waitFor();
        CHECK.due("exit code of " + script, code, 0);
        if (code != 0) {
            System.out.println(told);
        }
        return told.toString();
    }
}
