import java.io.IOException;
import java.lang.reflect.Method;
import java.lang.reflect.Modifier;
import java.nio.file.Files;
import java.nio.file.Path;
import java.util.ArrayList;
import java.util.List;
import java.util.Set;
import java.util.TreeSet;
import java.util.regex.Matcher;
import java.util.regex.Pattern;

/**
 * Writes a program, ReadmeUse, that makes the calls of README.md's java blocks, in their order, and
 * looks whether each answers what stands behind it. A call that does not tell its answer, and a
 * method of the face that is not shown at all, are refused.
 */
public final class ReadmeProgram {
    private static final Pattern NEW_TABLE =
        Pattern.compile("PreferTable \\w+ = new PreferTable\\(\\);");
    private static final Pattern CALL_OF_NO_ANSWER =
        Pattern.compile("\\w+\\.(free)\\(\\);( +//.*)?");
    // What keeps the answer, if anything does; the call and its method; what it throws or answers.
    private static final Pattern CALL = Pattern.compile(
        "(int \\w+ = )?(\\w+\\.(\\w+)\\(.*\\)); +"
            + "// (?:throws (\\w+)|(-?\\d+|true|false))([:,] .*)?");

    private final List<String> program = new ArrayList<>();
    private final List<String> faults = new ArrayList<>();
    private final Set<String> shown = new TreeSet<>();

    public static void main(String[] args) throws IOException {
        ReadmeProgram made = new ReadmeProgram();
        made.add(Files.readAllLines(Path.of(args[0])));
        made.lookForMethodsNotShown();
        made.faults.forEach(System.err::println);
        if (!made.faults.isEmpty()) {
            System.exit(1);
        }
        made.write();
    }

    private void add(List<String> lines) {
        boolean isJava = false;
        for (int i = 0; i < lines.size(); i++) {
            String line = lines.get(i).strip();
            if (line.startsWith("```")) {
                isJava = line.equals("```java");
            } else if (isJava && !line.isEmpty() && !line.startsWith("//")) {
                add("README.md, line " + (i + 1) + ": ", line);
            }
        }
    }

    private void add(String place, String line) {
        Matcher call = CALL.matcher(line);
        Matcher callOfNoAnswer = CALL_OF_NO_ANSWER.matcher(line);
        if (call.matches()) {
            shown.add(call.group(3));
            addCheck(place, call);
        } else if (callOfNoAnswer.matches()) {
            shown.add(callOfNoAnswer.group(1));
            program.add(line);
        } else if (NEW_TABLE.matcher(line).matches()) {
            program.add(line);
        } else {
            faults.add(place + "no call with its answer: " + line);
        }
    }

    private void addCheck(String place, Matcher call) {
        String due = call.group(4) == null ? call.group(5) : call.group(4);
        String text = "\"" + place + call.group(2) + "\"";
        if (call.group(1) == null) {
            String got = "Check.outcome(() -> " + call.group(2) + ")";
            program.add("Check.same(" + text + ", " + got + ", \"" + due + "\");");
        } else {
            String kept = call.group(1).split(" ")[1];
            program.add(call.group(1) + call.group(2) + ";");
            program.add("Check.same(" + text + ", " + kept + ", " + due + ");");
        }
    }

    private void lookForMethodsNotShown() {
        for (Method method : PreferTable.class.getDeclaredMethods()) {
            if (Modifier.isPublic(method.getModifiers()) && !shown.contains(method.getName())) {
                faults.add("README.md: " + method.getName() + " is not shown");
            }
        }
    }

    private void write() {
        System.out.println("public final class ReadmeUse {");
        System.out.println("    public static void main(String[] args) {");
        for (String line : program) {
            System.out.println("        " + line);
        }
        System.out.println("        Check.end();");
        System.out.println("    }");
        System.out.println("}");
    }
}
