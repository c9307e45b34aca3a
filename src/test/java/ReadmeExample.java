import java.io.File;
import java.io.IOException;
import java.nio.file.Files;
import java.nio.file.Path;

/** The example of README.md, compiled and run as it is told there, prints what it is said to print. */
public final class ReadmeExample {
    private static final Path FOLDER = Path.of("build", "readme");

    public static void main(String[] args) throws IOException, InterruptedException {
        String readme = Files.readString(Path.of("README.md"));
        Path out = FOLDER.resolve("out");
        Files.createDirectories(FOLDER);
        Path example = FOLDER.resolve("Example.java");
        Files.writeString(example, block(readme, "java"));
        run("javac", "-d", "" + out, "src/main/java/FalsePan.java");
        run("javac", "-cp", "" + out, "-d", "" + out, "" + example);
        Check.due("the example", run("java", "-cp", "" + out, "Example"), block(readme, "text"));
        Check.finish();
    }

    /** What stands in the only block of this kind. */
    private static String block(String readme, String kind) {
        String opening = "```" + kind + "\n";
        int at = readme.indexOf(opening);
        int start = at + opening.length();
        int end = readme.indexOf("```\n", start);
        boolean found = at >= 0 && end >= 0 && readme.lastIndexOf(opening) == at;
        Check.that("README.md has one block of " + kind, found);
        return found ? readme.substring(start, end) : "";
    }

    /** Runs a command that has to succeed; returns what it prints. */
    private static String run(String... command) throws IOException, InterruptedException {
        File printed = FOLDER.resolve("printed.txt").toFile();
        // What the Java machine itself has to say goes to the errors, and is not of the example.
        Process process = new ProcessBuilder(command).redirectError(ProcessBuilder.Redirect.INHERIT)
                .redirectOutput(printed).start();
        Check.due(String.join(" ", command) + ", the exit code,", process.waitFor(), 0);
        return Files.readString(printed.toPath()).replace("\r\n", "\n");
    }
}
