import java.io.IOException;
import java.nio.file.Files;
import java.nio.file.Path;
import java.util.List;
import java.util.Set;
import java.util.TreeSet;
import java.util.regex.Matcher;
import java.util.regex.Pattern;

/** Rules of LANGUAGE.md that can be seen in the source text. */
public final class LanguageTest {
    private static final Path SOURCE = Path.of("src/main/java/PracticeGround.java");
    private static final List<String> RULED_OUT = List.of("->", "::", "\\btry\\b", "\\bcatch\\b", "\\bfinally\\b",
            "\\bsynchronized\\b", "\\bassert\\b", "\\bpackage\\b", "static \\{", "Exact\\b", "\\bSystem\\.(?!arraycopy)",
            "\\bdouble\\b", "\\bfloat\\b", "\\bObject\\b", "\\bprotected\\b", "\\bhashCode\\b", "\\bvar\\b",
            "\\bThread\\b", "\\bRandom\\b", "while \\(true\\)", "for \\(;;\\)", "\\[\\]\\[\\]\\[\\]");
    private static final Set<String> IMPORTS = Set.of("java.util.Arrays", "java.util.NoSuchElementException");
    private static final Set<String> THROWN = Set.of("IllegalStateException", "IllegalArgumentException",
            "IndexOutOfBoundsException", "UnsupportedOperationException", "NoSuchElementException");

    public static void main(String[] args) throws IOException {
        String source = Files.readString(SOURCE);
        String code = source.replaceAll("(?s)/\\*.*?\\*/", "").replaceAll("//[^\n]*", "");
        for (String each : RULED_OUT) {
            Matcher matcher = Pattern.compile(each).matcher(code);
            Check.no("ruled out: " + each, matcher.find());
        }
        Check.yes("imports", IMPORTS.containsAll(all(code, "import ([\\w.]+);")));
        Check.yes("exceptions", THROWN.containsAll(all(code, "throw new (\\w+)\\(")));
        Check.yes("library calls on Arrays", Set.of("copyOf", "copyOfRange", "fill").containsAll(all(code, "Arrays\\.(\\w+)")));
        Check.yes("library calls on Math", Set.of("min", "max", "abs").containsAll(all(code, "Math\\.(\\w+)")));
        Check.yes("at most twelve classes", all(code, "\\bclass (\\w+)").size() <= 12);
        for (int i = 0; i < source.length(); i++) {
            if (source.charAt(i) > 126) {
                Check.same("a sign beyond 126 at", i, -1);
            }
        }
        methods(code);
        Check.finish();
    }

    private static Set<String> all(String code, String pattern) {
        Set<String> found = new TreeSet<>();
        Matcher matcher = Pattern.compile(pattern).matcher(code);
        while (matcher.find()) {
            found.add(matcher.group(1));
        }
        return found;
    }

    /** Rule 11: some sixty lines, seven parameters. */
    private static void methods(String code) {
        Pattern head = Pattern.compile("\n( +)(?:public|private) [^=;{}]*?(\\w+)\\(([^)]*)\\)[^;{}]*\\{");
        Matcher matcher = head.matcher(code);
        int found = 0;
        while (matcher.find()) {
            found++;
            int end = code.indexOf("\n" + matcher.group(1) + "}", matcher.end());
            long lines = code.substring(matcher.end(), end).lines().count();
            Check.yes(matcher.group(2) + " has " + lines + " lines", lines <= 60);
            Check.yes(matcher.group(2) + "(" + matcher.group(3) + ")", matcher.group(3).split(",").length <= 7);
        }
        Check.yes("methods were found", found > 50);
    }
}
