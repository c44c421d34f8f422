import java.io.IOException;
import java.nio.file.Files;
import java.nio.file.Path;
import java.util.ArrayList;
import java.util.List;
import java.util.regex.Matcher;
import java.util.regex.Pattern;
import java.util.stream.Stream;

/**
 * README.md: its commands work as they stand there, in a copy of the project, and its example is the one that they run.
 * The work folder is the project's.
 */
public final class ReadmeTest {
    /** Not run here, for it is what runs this test. */
    private static final String WHOLE_RUN = ".ci/run";
    private static final Path README = Path.of("README.md");
    private static final Path EXAMPLE = Path.of("src/example/java/DunesExample.java");
    private static final Path TESTS = Path.of("src/test/java");

    private static final class Block {
        final String kind;
        final String text;

        Block(String kind, String text) {
            this.kind = kind;
            this.text = text;
        }
    }

    public static void main(String[] args) throws IOException, InterruptedException {
        String readme = Files.readString(README);
        List<Block> blocks = blocks(readme);
        Path copy = Files.createTempDirectory("dunes-readme");
        try {
            copyProject(copy);
            commands(blocks, copy);
        } finally {
            remove(copy);
        }
        theExampleStandsInItsFile(blocks);
        eachTestIsNamed(readme);
        Check.end("ReadmeTest");
    }

    private static List<Block> blocks(String readme) {
        List<Block> found = new ArrayList<>();
        Matcher block = Pattern.compile("(?ms)^```(\\w+)\\n(.*?)^```$").matcher(readme);
        while (block.find()) {
            found.add(new Block(block.group(1), block.group(2)));
        }
        return found;
    }

    /** A block "text" right behind commands is what they print. */
    private static void commands(List<Block> blocks, Path copy) throws IOException, InterruptedException {
        int run = 0;
        int told = 0;
        boolean wholeRunIsNamed = false;
        for (int k = 0; k < blocks.size(); k++) {
            String commands = blocks.get(k).text;
            if (!blocks.get(k).kind.equals("sh")) {
                continue;
            }
            if (commands.strip().equals(WHOLE_RUN)) {
                wholeRunIsNamed = true;
                continue;
            }
            run++;
            String printed = printedBy(commands, copy);
            if (k + 1 < blocks.size() && blocks.get(k + 1).kind.equals("text")) {
                told++;
                Check.that("what the example prints is what README.md says, but: " + printed,
                    printed.equals(blocks.get(k + 1).text));
            }
        }
        Check.equal("blocks of commands", run, 2);
        Check.equal("blocks of what is printed", told, 1);
        Check.that(".ci/run is named and can be run", wholeRunIsNamed && Files.isExecutable(Path.of(WHOLE_RUN)));
    }

    private static String printedBy(String commands, Path folder) throws IOException, InterruptedException {
        Process process = new ProcessBuilder("sh", "-e", "-c", commands).directory(folder.toFile())
            .redirectErrorStream(true).start();
        process.getOutputStream().close();
        String printed = new String(process.getInputStream().readAllBytes());
        int code = process.waitFor();
        Check.that("these commands end with the exit code " + code + ": " + commands + printed, code == 0);
        return printed;
    }

    private static void theExampleStandsInItsFile(List<Block> blocks) throws IOException {
        String example = Files.readString(EXAMPLE).replaceAll("(?m)^        ", "");
        int found = 0;
        for (Block block : blocks) {
            if (block.kind.equals("java")) {
                found++;
                Check.that("the lines of the example stand in " + EXAMPLE, example.contains(block.text));
            }
        }
        Check.equal("blocks of Java", found, 1);
    }

    private static void eachTestIsNamed(String readme) throws IOException {
        int found = 0;
        try (Stream<Path> files = Files.list(TESTS)) {
            for (Path file : files.toList()) {
                found++;
                String name = file.getFileName().toString().replace(".java", "");
                Check.that("README.md tells of " + name, readme.contains("`" + name + "`"));
            }
        }
        Check.that("there are tests", found > 0);
    }

    private static void copyProject(Path copy) throws IOException {
        for (String part : new String[] {"README.md", "src"}) {
            try (Stream<Path> files = Files.walk(Path.of(part))) {
                for (Path file : files.toList()) {
                    Files.copy(file, copy.resolve(file.toString()));
                }
            }
        }
    }

    private static void remove(Path copy) throws IOException {
        try (Stream<Path> files = Files.walk(copy)) {
            List<Path> all = new ArrayList<>(files.toList());
            for (int k = all.size() - 1; k >= 0; k--) {
                Files.delete(all.get(k));
            }
        }
    }
}
