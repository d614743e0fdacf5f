import java.io.IOException;
import java.lang.reflect.Method;
import java.lang.reflect.Modifier;
import java.nio.file.Files;
import java.nio.file.Path;
import java.util.ArrayList;
import java.util.List;
import java.util.regex.Matcher;
import java.util.regex.Pattern;

/** Makes a test of the calls that README.md shows: each stands in a line with the answer that README.md tells of it. */
final class ReadmeCalls {
    private static final Pattern MADE = Pattern.compile("HatWinds \\w+ = new HatWinds\\(\\);");
    private static final Pattern CALL = Pattern.compile("(int (\\w+) = )?(\\w+\\.(\\w+)\\(.*\\)); +// (-?\\d+|[A-Z_]+): .+");
    private static final Pattern ANSWER_IN_TEXT = Pattern.compile("(?m)^\\| *`([A-Z_]+)` *\\| *(-?\\d+) *\\|");

    private final List<String> wrong = new ArrayList<>();
    private final List<String> shown = new ArrayList<>();
    private final StringBuilder test = new StringBuilder();

    /** The test is printed only if all of README.md is understood, and nothing is left out of it. */
    public static void main(String[] args) throws IOException {
        String readme = Files.readString(Path.of(args[0]));
        ReadmeCalls calls = new ReadmeCalls();
        calls.blocks(readme.split("\n"));
        calls.constants(readme);
        calls.showsEachMethod();
        calls.namesEachTest(readme, Path.of(args[1]));
        if (!calls.wrong.isEmpty()) {
            calls.wrong.forEach(System.err::println);
            System.exit(1);
        }
        System.out.println("final class ReadmeTest {\n    public static void main(String[] args) {");
        System.out.print(calls.test);
        System.out.println("        Due.end(\"ReadmeTest\");\n    }\n}");
    }

    private void blocks(String[] lines) {
        boolean isJava = false;
        for (int at = 0; at < lines.length; at++) {
            if (lines[at].startsWith("```")) {
                isJava = lines[at].equals("```java");
            } else if (isJava && !lines[at].isBlank()) {
                line("line " + (at + 1) + " of README.md", lines[at]);
            }
        }
    }

    private void line(String where, String line) {
        Matcher call = CALL.matcher(line);
        if (MADE.matcher(line).matches()) {
            add(line);
        } else if (!call.matches()) {
            wrong.add(where + " is no call with its answer: " + line);
        } else {
            shown.add(call.group(4));
            String name = call.group(2);
            if (name != null) {
                add(call.group(1) + call.group(3) + ";");
            }
            add("Due.is(\"" + where + "\", " + (name == null ? call.group(3) : name) + ", " + code(call.group(5)) + ");");
        }
    }

    private void add(String statement) {
        test.append("        ").append(statement).append('\n');
    }

    private static String code(String answer) {
        return Character.isLetter(answer.charAt(0)) ? "HatWinds." + answer : answer;
    }

    private void constants(String readme) {
        Matcher row = ANSWER_IN_TEXT.matcher(readme);
        int many = 0;
        for (; row.find(); many++) {
            add("Due.is(\"" + row.group(1) + " in README.md\", HatWinds." + row.group(1) + ", " + row.group(2) + ");");
        }
        int constants = HatWinds.class.getFields().length;
        if (many != constants) {
            wrong.add("README.md tells the numbers of " + many + " constants, there are " + constants);
        }
    }

    private void showsEachMethod() {
        for (Method method : HatWinds.class.getDeclaredMethods()) {
            if (Modifier.isPublic(method.getModifiers()) && !shown.contains(method.getName())) {
                wrong.add("README.md shows no call of " + method.getName());
            }
        }
    }

    private void namesEachTest(String readme, Path tests) throws IOException {
        try (var files = Files.list(tests)) {
            files.map(file -> file.getFileName().toString().replace(".java", ""))
                .filter(name -> !readme.contains("`" + name + "`"))
                .forEach(name -> wrong.add("README.md does not name " + name));
        }
    }
}
