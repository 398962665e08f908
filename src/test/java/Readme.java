import java.io.IOException;
import java.nio.file.Files;
import java.nio.file.Path;
import java.util.ArrayList;
import java.util.Comparator;
import java.util.List;
import java.util.regex.Matcher;
import java.util.regex.Pattern;

/** What README.md says holds: its example and what that prints, the calls, the codes, each command. */
public final class Readme {
    private static int wrong = 0;

    private static void must(boolean holds, String what) {
        if (!holds) {
            wrong++;
            System.out.println("README.md: " + what);
        }
    }

    public static void main(String[] args) throws Exception {
        String readme = Files.readString(Path.of("README.md"));
        must(blocks(readme, "java").equals(List.of(Files.readString(Path.of("src/test/java/Example.java")))),
            "the example is not src/test/java/Example.java");
        calls(readme);
        codes(readme);
        commands(readme);
        System.out.println(wrong == 0 ? "README.md holds" : wrong + " things of README.md don't hold");
        if (wrong != 0) {
            System.exit(1);
        }
    }

    private static List<String> blocks(String readme, String sort) {
        List<String> blocks = new ArrayList<>();
        Matcher m = Pattern.compile("(?ms)^```" + sort + "\n(.*?)^```$").matcher(readme);
        while (m.find()) {
            blocks.add(m.group(1));
        }
        return blocks;
    }

    /** Each call of the class has a row, with its parameters. */
    private static void calls(String readme) throws IOException {
        String source = Files.readString(Path.of("src/main/java/ApplesFall.java"));
        Matcher m = Pattern.compile("(?m)^    public (?:int|long) (\\w+\\(.*\\)) \\{$").matcher(source);
        int calls = 0;
        while (m.find()) {
            calls++;
            String call = m.group(1).replace("int ", "");
            must(readme.contains("\n| `" + call + "` | "), "no row for " + call);
        }
        must(calls == 27, calls + " calls were seen");
    }

    private static void codes(String readme) {
        must(readme.contains("\n| " + ApplesFall.BAD + " | `ApplesFall.BAD`"), "BAD");
        must(readme.contains("\n| " + ApplesFall.STATE + " | `ApplesFall.STATE`"), "STATE");
        must(readme.contains("\n| " + ApplesFall.FULL + " | `ApplesFall.FULL`"), "FULL");
        must(readme.contains("\n| " + ApplesFall.NO + " | `ApplesFall.NO`"), "NO");
        must(readme.contains("\n" + ApplesFall.NONE + " is no refusal but `ApplesFall.NONE`"), "NONE");
        for (int code = -11; code >= -14; code--) {
            must(readme.contains("\n| " + code + " | "), "no row for " + code);
        }
    }

    /** The compilers and the example are run as typed; of the others, that what they run is there. */
    private static void commands(String readme) throws Exception {
        Path top = beside();
        List<String> typed = new ArrayList<>();
        for (String block : blocks(readme, "sh")) {
            typed.addAll(List.of(block.split("\n")));
        }
        for (String line : typed) {
            if (line.equals("java -cp out Example")) {
                must(blocks(readme, "text").equals(List.of(run(top, line))), "the example prints otherwise");
            } else if (line.startsWith("java -cp out ")) {
                must(Files.exists(top.resolve("out/" + line.substring(13) + ".class")), "no class for: " + line);
            } else if (line.startsWith("javac ")) {
                run(top, line);
            } else {
                must(line.equals("bash .ci/run") && Files.isExecutable(Path.of(".ci/run")), "what is: " + line);
            }
        }
        try (var tests = Files.list(Path.of("src/test/java"))) {
            for (Path test : tests.toList()) {
                String name = test.getFileName().toString().replace(".java", "");
                boolean runs = Files.readString(test).contains("public static void main(");
                must(!runs || typed.contains("java -cp out " + name), "no command runs " + name);
            }
        }
        must(typed.contains("bash .ci/run"), "no command runs all tests");
        clear(top.getParent());
    }

    /** A top as the checkout's, with the same files and ../shared: so that nothing is left in the checkout. */
    private static Path beside() throws IOException {
        Path room = Files.createTempDirectory("readme");
        Path top = Files.createDirectory(room.resolve("main"));
        Files.createSymbolicLink(top.resolve("src"), Path.of("src").toRealPath());
        Files.createSymbolicLink(room.resolve("shared"), Path.of("../shared").toRealPath());
        return top;
    }

    private static void clear(Path room) throws IOException {
        try (var all = Files.walk(room)) {
            for (Path path : all.sorted(Comparator.reverseOrder()).toList()) {
                Files.delete(path);
            }
        }
    }

    private static String run(Path top, String line) throws Exception {
        ProcessBuilder typed = new ProcessBuilder("bash", "-c", line).directory(top.toFile());
        Process process = typed.redirectErrorStream(true).start();
        String printed = new String(process.getInputStream().readAllBytes());
        must(process.waitFor() == 0, "this fails: " + line + "\n" + printed);
        return printed;
    }
}
