import java.io.IOException;
import java.nio.file.Files;
import java.nio.file.Path;
import java.util.ArrayList;
import java.util.List;
import java.util.TreeSet;
import java.util.regex.Matcher;
import java.util.regex.Pattern;
import java.util.stream.Stream;

/**
 * README.md's example and commands, tried as they are written there: the example is saved under the name it is given
 * there, commands are run by a shell, and what stands in a text block behind them is what they are due to print.
 * All of it is done in a copy of the sources, so that the project's folder stays as it is.
 */
public final class ReadmeTest {
    private static final Path README = Path.of("README.md");
    // It runs this very test, and can't be run by it.
    private static final String ALL_TESTS = ".ci/run\n";

    private record Block(String kind, String text) {
    }

    public static void main(String[] args) throws IOException, InterruptedException {
        String readme = Files.readString(README);
        List<Block> blocks = blocks(readme);
        Path folder = Files.createTempDirectory("readme");
        try {
            copy(Path.of("src"), folder);
            saveExample(readme, blocks, folder);
            tryCommands(blocks, folder);
        } finally {
            remove(folder);
        }
        everyTestIsListed(readme);
        Script.finish();
    }

    private static List<Block> blocks(String readme) {
        List<Block> blocks = new ArrayList<>();
        Matcher block = Pattern.compile("(?ms)^```(\\w+)\\n(.*?)^```$").matcher(readme);
        while (block.find()) {
            blocks.add(new Block(block.group(1), block.group(2)));
        }
        return blocks;
    }

    private static void saveExample(String readme, List<Block> blocks, Path folder) throws IOException {
        Matcher name = Pattern.compile("saved as `([^`]+\\.java)`").matcher(readme);
        Script.due("the example has a name", name.find(), true);
        List<Block> examples = blocks.stream().filter(block -> block.kind().equals("java")).toList();
        Script.due("examples", examples.size(), 1);
        Path file = folder.resolve(name.group(1));
        Files.createDirectories(file.getParent());
        Files.writeString(file, examples.get(0).text());
    }

    private static void tryCommands(List<Block> blocks, Path folder) throws IOException, InterruptedException {
        int compared = 0;
        for (int i = 0; i < blocks.size(); i++) {
            String commands = blocks.get(i).text();
            if (!blocks.get(i).kind().equals("sh")) {
                continue;
            }
            if (commands.equals(ALL_TESTS)) {
                Script.due(commands.trim() + " can be run", Files.isExecutable(Path.of(commands.trim())), true);
                continue;
            }
            boolean hasText = i + 1 < blocks.size() && blocks.get(i + 1).kind().equals("text");
            Script.due("what this prints is told: " + commands, hasText, true);
            Script.due("what this prints: " + commands, printed(commands, folder), blocks.get(i + 1).text());
            compared++;
        }
        Script.due("commands that were tried", compared, 2);
    }

    private static String printed(String commands, Path folder) throws IOException, InterruptedException {
        Process shell = new ProcessBuilder("sh", "-e", "-c", commands)
            .directory(folder.toFile()).redirectError(ProcessBuilder.Redirect.INHERIT).start();
        shell.getOutputStream().close();
        String text = new String(shell.getInputStream().readAllBytes());
        Script.due("exit code of " + commands, shell.waitFor(), 0);
        return text;
    }

    private static void everyTestIsListed(String readme) throws IOException {
        TreeSet<String> listed = new TreeSet<>();
        Matcher row = Pattern.compile("(?m)^\\| `(\\w+)` \\|").matcher(readme);
        while (row.find()) {
            listed.add(row.group(1) + ".java");
        }
        TreeSet<String> there = new TreeSet<>();
        try (Stream<Path> files = Files.list(Path.of("src", "test", "java"))) {
            files.map(file -> file.getFileName().toString()).filter(file -> file.endsWith("Test.java")).forEach(there::add);
        }
        Script.due("tests that are listed", listed, there);
    }

    private static void copy(Path from, Path to) throws IOException {
        try (Stream<Path> files = Files.walk(from)) {
            for (Path file : files.toList()) {
                Files.copy(file, to.resolve(file.toString()));
            }
        }
    }

    private static void remove(Path folder) throws IOException {
        try (Stream<Path> files = Files.walk(folder)) {
            for (Path file : files.sorted((a, b) -> b.compareTo(a)).toList()) {
                Files.delete(file);
            }
        }
    }
}
