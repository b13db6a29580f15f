import java.io.IOException;
import java.nio.file.Files;
import java.nio.file.Path;
import java.util.ArrayList;
import java.util.Comparator;
import java.util.List;
import java.util.regex.Matcher;
import java.util.regex.Pattern;
import java.util.stream.Collectors;
import java.util.stream.Stream;

/**
 * README.md: its examples are run with the answers that it names, its commands are run as they stand, and it tells each
 * call of the document's face with its exceptions. To be run in the project's folder, as .ci/run does.
 */
public final class ReadmeTest {
    private static final String NEW_ROOM = "BalanceRoom room = new BalanceRoom();";
    private static final Pattern ANSWERED = Pattern.compile("(\\S.*);\\s+// (answers|throws) ([^:]+)(: .+)?");
    private static final Pattern FACE_CALL = Pattern.compile(
        "    public ((?:int|long) (\\w+)\\(.*\\))(?: throws (.*))?;");
    private static final Pattern EXCEPTION = Pattern.compile("\\w+Exception");

    private static final Check CHECK = new Check();

    /** What stands between two fences; line is the number of its first line in README.md. */
    private record Block(String kind, int line, List<String> lines) {
        String text() {
            return String.join("\n", lines) + "\n";
        }

        boolean isExample() {
            return kind.equals("java") && lines.get(0).equals(NEW_ROOM);
        }
    }

    /** A call of the document's face. */
    private record Call(String name, String signature, String exceptions) {
    }

    private record Ended(int code, String printed) {
    }

    public static void main(String[] args) throws IOException, InterruptedException {
        List<String> readme = Files.readAllLines(Path.of("README.md"));
        List<Block> blocks = blocksOf(readme);
        Path folder = Files.createTempDirectory("readme");
        try {
            runExamples(blocks, folder.resolve("examples"));
            runCommands(blocks, folder);
            programIsTheFile(blocks);
            callsAreTold(readme, blocks);
            testsAreTold(readme);
        } finally {
            delete(folder);
        }
        CHECK.end();
    }

    private static List<Block> blocksOf(List<String> readme) {
        List<Block> blocks = new ArrayList<>();
        Block open = null;
        for (int i = 0; i < readme.size(); i++) {
            String line = readme.get(i);
            if (open == null && line.startsWith("```")) {
                open = new Block(line.substring(3), i + 2, new ArrayList<>());
            } else if (line.equals("```")) {
                blocks.add(open);
                open = null;
            } else if (open != null) {
                open.lines().add(line);
            }
        }
        return blocks;
    }

    /** The answers in README.md are Java expressions, so the examples are compiled into a program that checks them. */
    private static void runExamples(List<Block> blocks, Path folder) throws IOException, InterruptedException {
        Files.createDirectories(folder);
        Path source = folder.resolve("ReadmeExamples.java");
        Files.writeString(source, programOf(blocks.stream().filter(Block::isExample).toList()));
        String classes = Path.of(System.getProperty("java.class.path")).toAbsolutePath().toString();
        Ended compiled = run(folder, "javac", "--release", "17", "-cp", classes, "-d", ".", source.toString());
        CHECK.compare("README.md's examples, compiled,", "0", told(compiled));
        Ended done = run(folder, "java", "-cp", classes + System.getProperty("path.separator") + ".", "ReadmeExamples");
        CHECK.compare("README.md's examples, run,", "0", told(done));
        System.out.print(done.code() == 0 ? "README.md's examples: " + done.printed() : "");
    }

    private static String programOf(List<Block> examples) {
        StringBuilder program = new StringBuilder("public final class ReadmeExamples {\n");
        program.append("static final Check CHECK = new Check();\n");
        program.append("public static void main(String[] args) {\n");
        for (Block example : examples) {
            program.append("CHECK.run(ReadmeExamples::from").append(example.line()).append(");\n");
        }
        program.append("CHECK.end();\n}\n");
        for (Block example : examples) {
            program.append("static void from").append(example.line()).append("() {\n");
            for (int i = 0; i < example.lines().size(); i++) {
                program.append(checked(example.lines().get(i), example.line() + i)).append('\n');
            }
            program.append("}\n");
        }
        return program.append("}\n").toString();
    }

    private static String checked(String line, int number) {
        Matcher answered = ANSWERED.matcher(line);
        if (answered.matches()) {
            boolean isThrown = answered.group(2).equals("throws");
            String want = isThrown ? answered.group(3) + ".class.getSimpleName()" : answered.group(3);
            return "CHECK.compare(\"README.md, line " + number + ",\", String.valueOf(" + want + "), "
                + "Check.outcome(() -> " + answered.group(1) + "));";
        }
        boolean needsNoAnswer = line.equals(NEW_ROOM) || line.startsWith("for (");
        holds("README.md, line " + number + ", names an answer", needsNoAnswer);
        return line;
    }

    /** In a copy of the project, for they write files. A block of text right behind commands is what they print. */
    private static void runCommands(List<Block> blocks, Path folder) throws IOException, InterruptedException {
        Path project = Files.createDirectories(folder.resolve("project"));
        copy(Path.of("src"), project.resolve("src"));
        Files.createSymbolicLink(folder.resolve("shared"), Path.of("../shared").toRealPath());
        for (int i = 0; i < blocks.size(); i++) {
            Block block = blocks.get(i);
            if (!block.kind().equals("sh")) {
                continue;
            }
            String where = "README.md, the command in line " + block.line() + ",";
            if (block.text().equals(".ci/run\n")) {
                // It runs this very test, so it is not run from here once more.
                holds(where + " can be run", Files.isExecutable(Path.of(".ci/run")));
                continue;
            }
            Ended ended = run(project, "sh", "-e", "-c", block.text());
            CHECK.compare(where, "0", told(ended));
            if (i + 1 < blocks.size() && blocks.get(i + 1).kind().equals("text")) {
                CHECK.compare(where + " printed:", blocks.get(i + 1).text(), ended.printed());
            }
        }
    }

    private static void programIsTheFile(List<Block> blocks) throws IOException {
        String program = blocks.stream().filter(block -> block.kind().equals("java") && !block.isExample())
            .map(Block::text).collect(Collectors.joining());
        CHECK.compare("the program in README.md", Files.readString(Path.of("src/example/java/Example.java")), program);
    }

    private static void callsAreTold(List<String> readme, List<Block> blocks) throws IOException {
        String examples = blocks.stream().filter(Block::isExample).map(Block::text).collect(Collectors.joining());
        List<Call> calls = callsOfTheFace();
        CHECK.compare("the number of the face's calls", "10", Integer.toString(calls.size()));
        for (Call call : calls) {
            int heading = readme.indexOf("### `" + call.signature() + "`");
            holds("README.md tells " + call.signature(), heading >= 0);
            if (heading >= 0) {
                String thrown = thrownBehind(readme.subList(heading, readme.size()));
                CHECK.compare("what README.md says that " + call.name() + " throws", call.exceptions(), thrown);
            }
            holds("README.md has an example of " + call.name(), examples.contains("room." + call.name() + "("));
        }
    }

    private static List<Call> callsOfTheFace() throws IOException {
        List<Call> calls = new ArrayList<>();
        for (String line : Files.readAllLines(Path.of("../shared/DOC.md"))) {
            Matcher call = FACE_CALL.matcher(line);
            if (call.matches()) {
                calls.add(new Call(call.group(2), call.group(1), call.group(3) == null ? "" : call.group(3)));
            }
        }
        return calls;
    }

    private static String thrownBehind(List<String> lines) {
        String item = lines.stream().dropWhile(line -> !line.startsWith("- Throws: "))
            .takeWhile(line -> !line.isEmpty()).collect(Collectors.joining(" "));
        return EXCEPTION.matcher(item).results().map(found -> found.group()).collect(Collectors.joining(", "));
    }

    private static void testsAreTold(List<String> readme) throws IOException {
        try (Stream<Path> files = Files.list(Path.of("src/test/java"))) {
            for (Path file : files.filter(path -> path.toString().endsWith("Test.java")).toList()) {
                String row = "| `" + file.getFileName().toString().replace(".java", "") + "` |";
                holds("README.md tells " + file, readme.stream().anyMatch(line -> line.startsWith(row)));
            }
        }
    }

    private static void holds(String what, boolean does) {
        CHECK.compare(what + ": that", "true", Boolean.toString(does));
    }

    private static String told(Ended ended) {
        return ended.code() == 0 ? "0" : ended.code() + ":\n" + ended.printed();
    }

    private static Ended run(Path folder, String... command) throws IOException, InterruptedException {
        Process process = new ProcessBuilder(command).directory(folder.toFile())
            .redirectError(ProcessBuilder.Redirect.INHERIT).start();
        String printed = new String(process.getInputStream().readAllBytes());
        return new Ended(process.waitFor(), printed);
    }

    private static void copy(Path from, Path to) throws IOException {
        try (Stream<Path> files = Files.walk(from)) {
            for (Path file : files.toList()) {
                Files.copy(file, to.resolve(from.relativize(file)));
            }
        }
    }

    private static void delete(Path folder) throws IOException {
        try (Stream<Path> files = Files.walk(folder)) {
            for (Path file : files.sorted(Comparator.reverseOrder()).toList()) {
                Files.delete(file);
            }
        }
    }
}
