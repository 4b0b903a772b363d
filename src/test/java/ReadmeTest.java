import java.io.IOException;
import java.io.UncheckedIOException;
import java.lang.reflect.Method;
import java.lang.reflect.Modifier;
import java.nio.file.Files;
import java.nio.file.Path;
import java.util.ArrayList;
import java.util.Comparator;
import java.util.List;
import java.util.regex.Matcher;
import java.util.regex.Pattern;
import java.util.stream.Stream;

/** What README.md tells a reader to type: each call with its answer, each command with what it prints. */
public final class ReadmeTest {
    private static final Check CHECK = new Check("ReadmeTest");
    private static final Pattern BLOCK = Pattern.compile("(?ms)^```(\\w+)\n(.*?)^```$");
    private static final Pattern CALL = Pattern.compile("^(x\\.(\\w+)\\(.*\\)); *// (-?\\d+)\\b.*$");

    /** A block of README.md between two lines of three marks, with the word behind the first. */
    private record Block(String kind, String text) { }

    public static void main(String[] args) throws Exception {
        Path root = args.length > 0 ? Path.of(args[0]).toAbsolutePath().getParent().resolve("../../..").normalize()
                : Path.of("").toAbsolutePath();
        String page = Files.readString(root.resolve("README.md"));
        Path room = layRoom(root);
        List<Block> blocks = blocksOf(page);
        callsWithAnswers(blocks, room);
        programAndCommands(blocks, room);
        testsAreNamed(page, root);
        CHECK.end();
    }

    private static List<Block> blocksOf(String page) {
        List<Block> blocks = new ArrayList<>();
        Matcher m = BLOCK.matcher(page);
        while (m.find()) {
            blocks.add(new Block(m.group(1), m.group(2)));
        }
        return blocks;
    }

    /** A copy of the project beside the same ../shared, so that the commands find what they name. */
    private static Path layRoom(Path root) throws IOException {
        Path room = root.resolve("build/readme");
        deleteAll(room);
        Path main = Files.createDirectories(room.resolve("main"));
        Files.createSymbolicLink(room.resolve("shared"), root.resolve("../shared").toRealPath());
        copyAll(root.resolve("src"), main.resolve("src"));
        return main;
    }

    private static void deleteAll(Path top) throws IOException {
        if (Files.exists(top)) {
            try (Stream<Path> all = Files.walk(top)) {
                all.sorted(Comparator.reverseOrder()).forEach(path -> path.toFile().delete());
            }
        }
    }

    private static void copyAll(Path from, Path to) throws IOException {
        try (Stream<Path> all = Files.walk(from)) {
            all.forEach(path -> {
                try {
                    Files.copy(path, to.resolve(from.relativize(path).toString()));
                } catch (IOException e) {
                    throw new UncheckedIOException(e);
                }
            });
        }
    }

    /** The blocks without a class of their own become one program that compares each answer. */
    private static void callsWithAnswers(List<Block> blocks, Path room) throws Exception {
        StringBuilder code = new StringBuilder("public class Calls {\n"
                + "static void due(String call, long got, long want) {\n"
                + "System.out.println(got == want ? \"ok\" : call + \" answers \" + got + \", README.md says \" + want);\n"
                + "}\npublic static void main(String[] args) {\n");
        List<String> shown = new ArrayList<>();
        for (Block block : blocks) {
            if (block.kind.equals("java") && !block.text.contains("class ")) {
                code.append("{\n");
                for (String line : block.text.split("\n")) {
                    code.append(withCheck(line, shown)).append('\n');
                }
                code.append("}\n");
            }
        }
        Files.writeString(room.resolve("Calls.java"), code.append("}\n}\n"));
        String printed = typed(room, "javac -d build/calls src/main/java/ToldFigures.java Calls.java\n"
                + "java -cp build/calls Calls\n");
        List<String> lines = printed.lines().toList();
        CHECK.due("README.md: answers that are compared", lines.size(), shown.size());
        for (String line : lines) {
            CHECK.due("README.md: " + line, line.equals("ok"));
        }
        for (Method m : ToldFigures.class.getDeclaredMethods()) {
            boolean open = Modifier.isPublic(m.getModifiers());
            CHECK.due("README.md shows " + m.getName(), !open || shown.contains(m.getName()));
        }
    }

    private static String withCheck(String line, List<String> shown) {
        Matcher call = CALL.matcher(line);
        if (call.matches()) {
            shown.add(call.group(2));
            String name = call.group(1).replace("\"", "");
            return "due(\"" + name + "\", " + call.group(1) + ", " + call.group(3) + "L);";
        }
        CHECK.due("README.md: no answer of " + line, !line.startsWith("x."));
        return line;
    }

    /** A program is saved under its class's name; a text behind commands is what they print. */
    private static void programAndCommands(List<Block> blocks, Path room) throws Exception {
        int commands = 0;
        for (int i = 0; i < blocks.size(); i++) {
            String text = blocks.get(i).text;
            Matcher program = Pattern.compile("public class (\\w+)").matcher(text);
            if (blocks.get(i).kind.equals("java") && program.find()) {
                Files.writeString(room.resolve(program.group(1) + ".java"), text);
            }
            // The page's command for all tests is the one that runs this test.
            if (blocks.get(i).kind.equals("sh") && !text.equals(".ci/run\n")) {
                commands++;
                String printed = typed(room, text);
                boolean told = i + 1 < blocks.size() && blocks.get(i + 1).kind.equals("text");
                CHECK.due("README.md: commands print " + printed, !told || printed.equals(blocks.get(i + 1).text));
            }
        }
        CHECK.due("README.md: commands that are run", commands, 3);
    }

    private static String typed(Path folder, String commands) throws Exception {
        Process process = new ProcessBuilder("sh", "-e", "-c", commands).directory(folder.toFile())
                .redirectErrorStream(true).start();
        String printed = new String(process.getInputStream().readAllBytes());
        CHECK.due("README.md: " + commands + printed + "ends with", process.waitFor(), 0);
        return printed;
    }

    private static void testsAreNamed(String page, Path root) throws IOException {
        CHECK.due("README.md tells of .ci/run", page.contains("```sh\n.ci/run\n```"));
        CHECK.due(".ci/run can be run", Files.isExecutable(root.resolve(".ci/run")));
        try (Stream<Path> tests = Files.list(root.resolve("src/test/java"))) {
            for (Path test : tests.filter(Files::isRegularFile).toList()) {
                CHECK.due("README.md names " + test.getFileName(), page.contains("`src/test/java/" + test.getFileName() + "`"));
            }
        }
        Matcher named = Pattern.compile("`(src/[\\w/]+\\.java)`").matcher(page);
        while (named.find()) {
            CHECK.due("there is " + named.group(1), Files.isRegularFile(root.resolve(named.group(1))));
        }
    }
}
