import java.io.IOException;
import java.nio.file.Files;
import java.nio.file.Path;
import java.util.ArrayList;
import java.util.List;
import java.util.regex.Matcher;
import java.util.regex.Pattern;

/** The lines of Java in README.md compile, print what stands behind them, and name every call of the face. */
final class ReadmeTest {
    private static final Check CHECK = new Check("ReadmeTest");

    private ReadmeTest() {
    }

    public static void main(String[] args) throws IOException, InterruptedException {
        String readme = Files.readString(Path.of("README.md"));
        Matcher block = Pattern.compile("(?s)```java\n(.*?)```").matcher(readme);
        boolean found = block.find();
        CHECK.holds("there are lines of Java", found);
        if (found) {
            printsAsTold(block.group(1));
        }
        for (java.lang.reflect.Method m : FilledRoll.class.getDeclaredMethods()) {
            boolean open = java.lang.reflect.Modifier.isPublic(m.getModifiers());
            CHECK.holds("the table names " + m.getName(), !open || readme.contains("`" + m.getName() + "`"));
        }
        CHECK.end();
    }

    private static void printsAsTold(String lines) throws IOException, InterruptedException {
        List<String> told = new ArrayList<>();
        Matcher number = Pattern.compile("println\\(.*// prints (-?\\d+):").matcher(lines);
        while (number.find()) {
            told.add(number.group(1));
        }
        CHECK.due("every line that prints tells what", lines.split("println").length - 1, told.size());
        List<String> printed = run(lines);
        CHECK.due("lines printed", told.size(), printed.size());
        for (int i = 0; i < told.size() && i < printed.size(); i++) {
            CHECK.holds("line " + i + " prints " + told.get(i) + ", not " + printed.get(i),
                    told.get(i).equals(printed.get(i)));
        }
    }

    /** Runs lines as a program of their own; what they print. */
    private static List<String> run(String lines) throws IOException, InterruptedException {
        Path file = Files.createTempFile("Readme", ".java");
        Path out = Files.createTempFile("Readme", ".out");
        try {
            Files.writeString(file, "class Readme { public static void main(String[] args) {\n" + lines + "} }\n");
            String java = Path.of(System.getProperty("java.home"), "bin", "java").toString();
            Process process = new ProcessBuilder(java, "-cp", System.getProperty("java.class.path"), file.toString())
                    .redirectError(ProcessBuilder.Redirect.INHERIT).redirectOutput(out.toFile()).start();
            int end = process.waitFor();
            List<String> printed = Files.readAllLines(out);
            CHECK.holds("the lines run: " + printed, end == 0);
            return printed;
        } finally {
            Files.delete(file);
            Files.delete(out);
        }
    }
}
