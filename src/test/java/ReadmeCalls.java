import java.io.IOException;
import java.lang.reflect.Method;
import java.lang.reflect.Modifier;
import java.nio.file.Files;
import java.nio.file.Path;
import java.util.ArrayList;
import java.util.List;
import java.util.Set;
import java.util.TreeSet;
import java.util.regex.Matcher;
import java.util.regex.Pattern;

/** Prints a test made of README.md's Java: it makes the calls that stand there and compares the answers. */
public final class ReadmeCalls {
    private static final Pattern BLOCK = Pattern.compile("(?ms)^```java\n(.*?)^```$");
    private static final Pattern CALL = Pattern.compile("(?:int (\\w+) = )?(ground\\.(\\w+)\\(.*\\));(?: +// (.*))?");
    private static final Pattern ANSWER = Pattern.compile("(-?\\d+|NONE|true|false)(?::.*)?");
    private static final Pattern THROWN = Pattern.compile("throws (\\w+)(?::.*)?");

    private final List<String> members = new ArrayList<>();
    private final List<String> statements = new ArrayList<>();
    private final Set<String> answered = new TreeSet<>();

    private ReadmeCalls() {
    }

    public static void main(String[] args) throws IOException {
        ReadmeCalls calls = new ReadmeCalls();
        Matcher blocks = BLOCK.matcher(Files.readString(Path.of("README.md")));
        while (blocks.find()) {
            calls.take(blocks.group(1));
        }
        calls.checkThatAllAreTold();
        calls.print();
    }

    private void take(String block) {
        if (block.startsWith("static ")) {
            members.addAll(block.lines().toList());
        } else {
            block.lines().forEach(this::takeStatement);
        }
    }

    private void takeStatement(String line) {
        Matcher call = CALL.matcher(line);
        if (!call.matches()) {
            statements.add(line);
            return;
        }
        String comment = call.group(4) == null ? "" : call.group(4);
        Matcher answer = ANSWER.matcher(comment);
        Matcher thrown = THROWN.matcher(comment);
        String text = "\"" + call.group(2) + "\"";
        if (answer.matches()) {
            String asked = call.group(2);
            if (call.group(1) != null) {
                asked = call.group(1);
                statements.add("int " + asked + " = " + call.group(2) + ";");
            }
            String due = answer.group(1).equals("NONE") ? "PracticeGround.NONE" : answer.group(1);
            statements.add("due(" + text + ", \"\" + " + asked + ", \"\" + " + due + ");");
        } else if (thrown.matches()) {
            statements.add("try { due(" + text + ", \"\" + " + call.group(2) + ", \"" + thrown.group(1) + "\"); }");
            statements.add("catch (RuntimeException e) {");
            statements.add("due(" + text + ", e.getClass().getSimpleName(), \"" + thrown.group(1) + "\"); }");
        } else {
            refuse("README.md tells no answer: " + line);
        }
        answered.add(call.group(3));
    }

    private void checkThatAllAreTold() {
        for (Method method : PracticeGround.class.getDeclaredMethods()) {
            if (Modifier.isPublic(method.getModifiers()) && !answered.contains(method.getName())) {
                refuse("README.md has no call of " + method.getName());
            }
        }
    }

    private static void refuse(String why) {
        System.err.println(why);
        System.exit(1);
    }

    private void print() {
        System.out.println("public final class Readme {");
        System.out.println("static int wrong = 0;");
        System.out.println("static void due(String call, String got, String want) { if (!got.equals(want)) { wrong++;");
        System.out.println("System.out.println(\"README.md: \" + call + \" answered \" + got + \", told is \" + want); } }");
        members.forEach(System.out::println);
        System.out.println("public static void main(String[] args) {");
        statements.forEach(System.out::println);
        System.out.println("System.exit(wrong == 0 ? 0 : 1); } }");
    }
}
