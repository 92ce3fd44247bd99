import java.io.IOException;
import java.nio.file.Files;
import java.nio.file.Path;
import java.util.List;
import java.util.regex.Matcher;
import java.util.regex.Pattern;

/** What of LANGUAGE.md can be seen in the program's own lines. */
final class LanguageTest {
    private static final Check CHECK = new Check("LanguageTest");
    private static final List<String> NEVER = List.of("throw", "throws", "try", "catch", "finally", "synchronized",
            "assert", "import", "package", "protected", "float", "double", "instanceof", "extends", "implements",
            "Exact", "NaN", "var", "yield", "hashCode", "toString", "equals", "volatile", "native");

    private LanguageTest() {
    }

    public static void main(String[] args) throws IOException {
        String source = Files.readString(Path.of("src/main/java/FilledRoll.java"));
        CHECK.holds("signs 1 to 126 alone", source.chars().allMatch(c -> c >= 1 && c < 127));
        String code = source.replaceAll("(?s)/\\*.*?\\*/", "").replaceAll("//[^\n]*", "");
        for (String word : NEVER) {
            CHECK.holds("no " + word, !Pattern.compile("\\b\\w*" + (word.equals("Exact") ? word : "\\b" + word)
                    + "\\b").matcher(code).find());
        }
        CHECK.holds("no lambda, no method reference", !code.contains("->") && !code.contains("::"));
        CHECK.holds("no texts", !code.contains("\""));
        CHECK.holds("no while without a test", !code.contains("while (true") && !code.contains("for (;"));
        libraryIsAsListed(code);
        objectsAreMadeOnce(code);
        methodsAreShort(source);
        CHECK.end();
    }

    private static void libraryIsAsListed(String code) {
        Matcher calls = Pattern.compile("\\b(System|Math|Integer|Long|Arrays|String)\\b(\\.\\w+)?").matcher(code);
        List<String> may = List.of("Math.min", "Math.max", "Integer.bitCount", "System.arraycopy");
        while (calls.find()) {
            CHECK.holds("of the library: " + calls.group(), may.contains(calls.group()));
        }
    }

    /** All rows are made with the object: no call makes one more, so 512 calls take no more room than one. */
    private static void objectsAreMadeOnce(String code) {
        Matcher made = Pattern.compile("(?m)^( *)(.*)\\bnew \\w+").matcher(code);
        while (made.find()) {
            boolean field = made.group(2).startsWith("private final ") || made.group(2).startsWith("final ");
            boolean row = made.group(2).matches("\\w+\\[\\w+\\] = ");
            CHECK.holds("made as a field or as a constructor's row: " + made.group().trim(), field || row);
        }
    }

    private static void methodsAreShort(String source) {
        Matcher heads = Pattern.compile("(?m)^( +)(?:public |private |static )*[\\w\\[\\]]+ ?\\w*\\(([^;{]*)\\)\\s*\\{$")
                .matcher(source);
        int methods = 0;
        while (heads.find()) {
            String indent = heads.group(1);
            int end = source.indexOf("\n" + indent + "}", heads.end());
            long lines = source.substring(heads.start(), Math.max(heads.start(), end)).lines().count();
            CHECK.holds("sixty lines at most: " + heads.group().trim(), lines <= 60);
            CHECK.holds("seven arguments at most: " + heads.group().trim(), heads.group(2).split(",").length <= 7);
            methods++;
        }
        CHECK.holds("methods were found: " + methods, methods > 100);
    }
}
