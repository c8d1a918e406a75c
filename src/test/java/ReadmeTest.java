import java.io.IOException;
import java.lang.reflect.Field;
import java.lang.reflect.Method;
import java.lang.reflect.Modifier;
import java.nio.charset.StandardCharsets;
import java.nio.file.Files;
import java.nio.file.Path;
import java.util.ArrayList;
import java.util.List;
import java.util.regex.Matcher;
import java.util.regex.Pattern;

/** The example of README.md answers what its comments say, and README.md names all of the class's face. */
public final class ReadmeTest {
    private static final Pattern EXAMPLE = Pattern.compile("```java\n(.*?)```", Pattern.DOTALL);
    private static final Pattern ANSWERED = Pattern.compile("\\s*(\\S.*;)\\s+// (-?\\d+): .*");

    private final String text;
    private final List<String> calls = new ArrayList<>();
    private final List<Integer> answers = new ArrayList<>();
    private int shown = 0;

    private ReadmeTest(String text) {
        this.text = text;
        Matcher example = EXAMPLE.matcher(text);
        if (example.find()) {
            for (String line : example.group(1).split("\n")) {
                Matcher m = ANSWERED.matcher(line);
                if (m.matches()) {
                    calls.add(m.group(1));
                    answers.add(Integer.parseInt(m.group(2)));
                }
            }
        }
    }

    /** The next line of the example with an answer is this call, and it got the answer of its comment. */
    private void shows(String call, int got) {
        String next = shown < calls.size() ? calls.get(shown) : "no line";
        Due.due("README.md shows " + call + " where it has " + next, call.equals(next) ? 1 : 0, 1);
        if (call.equals(next)) {
            Due.due("README.md: " + call, answers.get(shown), got);
        }
        shown++;
    }

    private void example() {
        BeamCuts x = new BeamCuts();
        int outer = x.tell(2, 2, 20, 16);
        shows("int outer = x.tell(2, 2, 20, 16);", outer);
        int inner = x.tell(5, 5, 2, 2);
        shows("int inner = x.tell(5, 5, 2, 2);", inner);
        shows("x.cut(outer);", x.cut(outer));
        shows("x.ordered(0);", x.ordered(0));
        shows("x.ordered(1);", x.ordered(1));
        shows("x.allTakes();", x.allTakes());
        shows("x.setLead(outer, 2);", x.setLead(outer, 2));
        Due.due("README.md types the plan", text.contains("\"c1;w9;c0\".toCharArray()") ? 1 : 0, 1);
        for (char c : "c1;w9;c0".toCharArray()) {
            x.type(c);
        }
        shows("x.perform();", x.perform());
        shows("x.count(8);", x.count(8));
        shows("x.undo();", x.undo());
        shows("x.count(8);", x.count(8));
        Due.due("lines of README.md's example with an answer", calls.size(), shown);
    }

    private void face() {
        for (Method m : BeamCuts.class.getDeclaredMethods()) {
            if (Modifier.isPublic(m.getModifiers())) {
                Due.due("README.md tells of " + m.getName(), text.contains("`" + m.getName() + "(") ? 1 : 0, 1);
            }
        }
        for (Field f : BeamCuts.class.getDeclaredFields()) {
            if (Modifier.isPublic(f.getModifiers())) {
                Due.due("README.md tells of " + f.getName(), text.contains("`" + f.getName() + "`") ? 1 : 0, 1);
            }
        }
    }

    /** Each test of the project has a line that says what it tests. */
    private void tests() throws IOException {
        try (var files = Files.list(Path.of("src", "test", "java"))) {
            for (Path file : (Iterable<Path>) files::iterator) {
                String name = file.getFileName().toString().replace(".java", "");
                if (name.endsWith("Test")) {
                    Due.due("README.md tells of " + name, text.contains("`" + name + "`") ? 1 : 0, 1);
                }
            }
        }
    }

    public static void main(String[] args) throws IOException {
        ReadmeTest t = new ReadmeTest(Files.readString(Path.of("README.md"), StandardCharsets.UTF_8));
        t.example();
        t.face();
        t.tests();
        Due.end();
    }
}
