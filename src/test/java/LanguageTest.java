import java.io.IOException;
import java.lang.reflect.Constructor;
import java.lang.reflect.Field;
import java.lang.reflect.Method;
import java.lang.reflect.Modifier;
import java.nio.charset.StandardCharsets;
import java.nio.file.Files;
import java.nio.file.Path;
import java.util.Set;
import java.util.TreeSet;
import java.util.regex.Matcher;
import java.util.regex.Pattern;

/** The rules of LANGUAGE.md that can be seen from the file and from the compiled classes. */
public final class LanguageTest {
    private static final Path PROGRAM = Path.of("src", "main", "java", "BeamCuts.java");
    private static final Set<String> METHODS = Set.of("int tell(int,int,int,int)", "int setLead(int,int)",
        "int set(int,int)", "int cut(int)", "int pause(int)", "int clean()", "int type(char)", "int clearText()",
        "int perform()", "int stopped(int)", "int undo()", "int keep()", "int restore()", "int shape(int,int)",
        "int heat(int)", "int reason(int)", "int takes(int)", "int coolsIn(int)", "int best()", "int ordered(int)",
        "int allTakes()", "int count(int)");
    private static final Set<String> CONSTANTS = Set.of("UNKNOWN", "BAD_VALUE", "FULL", "NOT_POSSIBLE", "NONE",
        "REFUSED");
    private static final Set<String> LIBRARY = Set.of("List.of", "System.arraycopy", "Arrays.copyOf",
        "Arrays.copyOfRange", "Arrays.fill");

    private LanguageTest() {
    }

    private static void holds(String rule, boolean holds) {
        Due.due(rule, holds ? 1 : 0, 1);
    }

    private static String signature(Method m) {
        StringBuilder s = new StringBuilder(m.getReturnType() + " " + m.getName() + "(");
        for (Class<?> type : m.getParameterTypes()) {
            s.append(s.charAt(s.length() - 1) == '(' ? "" : ",").append(type);
        }
        return s.append(')').toString();
    }

    private static void face() {
        Class<?> c = BeamCuts.class;
        holds("rule 1: public and final", Modifier.isPublic(c.getModifiers()) && Modifier.isFinal(c.getModifiers()));
        Set<String> methods = new TreeSet<>();
        Set<String> names = new TreeSet<>();
        for (Method m : c.getDeclaredMethods()) {
            if (Modifier.isPublic(m.getModifiers())) {
                methods.add(signature(m));
                names.add(m.getName());
            }
        }
        holds("rule 1: the methods of the document", methods.equals(METHODS));
        Set<String> constants = new TreeSet<>();
        for (Field f : c.getDeclaredFields()) {
            holds("rule 1: " + f, Modifier.isPrivate(f.getModifiers()) || CONSTANTS.contains(f.getName()));
            if (Modifier.isPublic(f.getModifiers())) {
                constants.add(f.getName());
                holds("rule 1: constant " + f, f.getType() == int.class && Modifier.isStatic(f.getModifiers()));
            }
        }
        holds("rule 1: the constants of the document", constants.equals(CONSTANTS));
        Constructor<?>[] made = c.getDeclaredConstructors();
        holds("rule 1: the constructor", made.length == 1 && Modifier.isPublic(made[0].getModifiers())
            && made[0].getParameterCount() == 0);
        members(c, names);
        holds("rule 11: some twelve classes", c.getDeclaredClasses().length < 12);
        for (Class<?> inside : c.getDeclaredClasses()) {
            holds("rule 2: " + inside + " is static", Modifier.isStatic(inside.getModifiers()));
            holds("rule 2: " + inside + " is not public", !Modifier.isPublic(inside.getModifiers()));
            members(inside, names);
        }
    }

    private static void members(Class<?> c, Set<String> names) {
        int fields = 0;
        for (Method m : c.getDeclaredMethods()) {
            boolean isPublic = Modifier.isPublic(m.getModifiers());
            holds("rule 1: " + m, isPublic || c != BeamCuts.class || Modifier.isPrivate(m.getModifiers()));
            holds("rule 1: the name of " + m, isPublic || !names.contains(m.getName()));
            holds("rule 11: parameters of " + m, m.getParameterCount() <= 7);
        }
        for (Field f : c.getDeclaredFields()) {
            fields += Modifier.isStatic(f.getModifiers()) ? 0 : 1;
            holds("rule 5: " + f, !Modifier.isStatic(f.getModifiers()) || Modifier.isFinal(f.getModifiers()));
        }
        holds("rule 11: fields of " + c, fields <= 20);
    }

    private static void text() throws IOException {
        String text = Files.readString(PROGRAM, StandardCharsets.UTF_8);
        holds("signs are 1 to 127", text.chars().allMatch(sign -> sign < 128));
        String code = text.replaceAll("(?s)/\\*.*?\\*/", " ").replaceAll("//[^\n]*", " ");
        String[] words = {"throw", "throws", "try", "catch", "finally", "synchronized", "assert", "package", "Object",
            "Thread", "hashCode", "volatile", "transient", "native", "Exception", "protected", "strictfp"};
        for (String word : words) {
            holds("rules 3 to 6: no \"" + word + "\"", !Pattern.compile("\\b" + word + "\\b").matcher(code).find());
        }
        holds("rule 2: no lambda", !Pattern.compile("(\\w|\\)) *-> *[^;]*[;)]").matcher(withoutCases(code)).find());
        holds("rule 2: no method reference", !code.contains("::"));
        holds("rule 5: no initialiser block", !Pattern.compile("static\\s*\\{").matcher(code).find());
        Matcher library = Pattern.compile("\\b(Math|Integer|Long|Arrays|String|List|System)\\.(\\w+)").matcher(code);
        while (library.find()) {
            holds("rule 4: " + library.group(), isAllowed(library.group(1), library.group(2)));
        }
        Matcher imported = Pattern.compile("\\bimport\\s+([\\w.*]+)").matcher(code);
        while (imported.find()) {
            holds("rule 4: " + imported.group(),
                imported.group(1).matches("java\\.util\\.(ArrayList|List|Arrays|Iterator)"));
        }
        lengths(text.split("\n"));
    }

    /** Static functions over int and long, but those whose name ends in Exact; of other classes what is listed. */
    private static boolean isAllowed(String owner, String name) {
        boolean isNumbers = owner.equals("Math") || owner.equals("Integer") || owner.equals("Long");
        return isNumbers ? !name.endsWith("Exact") && !name.equals("random") : LIBRARY.contains(owner + "." + name);
    }

    /** The arrows of a switch are no lambdas. */
    private static String withoutCases(String code) {
        return code.replaceAll("(case [^:;{}]*|default) *->", " ");
    }

    /** Methods begin with a line that ends in "{" and end with "}" as far in. */
    private static void lengths(String[] lines) {
        Pattern head = Pattern.compile("( {4}| {8})\\S[^;=]*\\) \\{");
        int from = -1;
        String end = "";
        for (int i = 0; i < lines.length; i++) {
            Matcher m = head.matcher(lines[i]);
            if (from < 0 && m.matches() && !lines[i].trim().startsWith("if") && !lines[i].trim().startsWith("for")) {
                from = i;
                end = m.group(1) + "}";
            } else if (from >= 0 && lines[i].equals(end)) {
                holds("rule 11: length of the method in line " + (from + 1), i - from < 60);
                from = -1;
            }
        }
    }

    public static void main(String[] args) throws IOException {
        face();
        text();
        Due.end();
    }
}
