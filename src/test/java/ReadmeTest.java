import java.io.IOException;
import java.net.URL;
import java.net.URLClassLoader;
import java.nio.file.Files;
import java.nio.file.Path;
import java.util.ArrayList;
import java.util.List;
import java.util.regex.Matcher;
import java.util.regex.Pattern;

/** README.md: its lines of Java must compile and answer what is written behind them, and its text must be read. */
final class ReadmeTest {
    private static final Pattern ANSWERED = Pattern.compile("(bureau\\.[^;]*); *// (-?\\d+): .*");

    public static void main(String[] args) throws Exception {
        StringBuilder java = new StringBuilder();
        StringBuilder description = new StringBuilder();
        for (String block : blocks()) {
            if (block.startsWith("bureau ")) {
                description.append(block.replaceAll(" {2,}.*", ""));
            } else if (block.contains("(")) {
                java.append(block);
            }
        }
        example(java.toString());
        description(description.toString().strip());
        Check.end("ReadmeTest");
    }

    /** The indented blocks of the section on how the class is used. */
    private static List<String> blocks() throws IOException {
        List<String> blocks = new ArrayList<>();
        StringBuilder block = new StringBuilder();
        String text = Files.readString(Path.of("README.md"));
        String section = text.substring(text.indexOf("## How to use it"), text.indexOf("## How to run its tests"));
        for (String line : section.split("\n", -1)) {
            if (line.startsWith("    ")) {
                block.append(line.substring(4)).append('\n');
            } else if (block.length() > 0) {
                blocks.add(block.toString());
                block.setLength(0);
            }
        }
        return blocks;
    }

    private static void example(String java) throws Exception {
        StringBuilder program = new StringBuilder("import java.nio.ByteBuffer;\n"
                + "import java.nio.charset.StandardCharsets;\nimport java.util.Arrays;\nimport java.util.List;\n"
                + "public final class Example {\n"
                + "public static SilenceBureau run(List<String> due, List<Integer> answers) {\n");
        for (String line : java.split("\n")) {
            Matcher answered = ANSWERED.matcher(line);
            if (answered.matches()) {
                program.append("due.add(\"" + answered.group(2) + "\"); answers.add(" + answered.group(1) + ");\n");
            } else {
                program.append(line).append('\n');
            }
        }
        program.append("return bureau;\n}\n}\n");
        List<String> due = new ArrayList<>();
        List<Integer> answers = new ArrayList<>();
        SilenceBureau bureau = run(program.toString(), due, answers);
        Check.same("answers in README.md", due.toString(), answers.toString());
        Check.same("answers are found there", true, due.size() >= 2);
        Check.same("the clock of its last text", 6, bureau.clock());
        Check.same("the borrowers of its last text", 1, bureau.borrowerCount());
    }

    private static SilenceBureau run(String program, List<String> due, List<Integer> answers) throws Exception {
        Path directory = Files.createTempDirectory("readme");
        Path source = directory.resolve("Example.java");
        Path compiled = directory.resolve("Example.class");
        try {
            Files.writeString(source, program);
            Process compiler = new ProcessBuilder("javac", "-d", directory.toString(), "-cp",
                    System.getProperty("java.class.path"), source.toString()).inheritIO().start();
            Check.same("the lines of Java compile", 0, compiler.waitFor());
            try (URLClassLoader loader = new URLClassLoader(new URL[] {directory.toUri().toURL()})) {
                return (SilenceBureau) loader.loadClass("Example").getMethod("run", List.class, List.class)
                        .invoke(null, due, answers);
            }
        } finally {
            Files.deleteIfExists(compiled);
            Files.deleteIfExists(source);
            Files.delete(directory);
        }
    }

    private static void description(String text) {
        SilenceBureau x = new SilenceBureau();
        Check.same("the description is read", 1, Check.load(x, text));
        Check.same("its hours have passed", 6, x.clock());
        Check.same("its permit stands", 0, x.permitFor(0, 10));
        Check.same("its loan is returned", SilenceBureau.RETURNED, x.statusOf(0));
    }
}
