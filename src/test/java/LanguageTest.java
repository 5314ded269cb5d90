import java.io.IOException;
import java.lang.reflect.Field;
import java.lang.reflect.Method;
import java.lang.reflect.Modifier;
import java.nio.file.Files;
import java.nio.file.Path;
import java.util.List;
import java.util.Set;
import java.util.regex.Matcher;
import java.util.regex.Pattern;

/** What of LANGUAGE.md can be seen from the class's text and from its members. */
public final class LanguageTest {
    private static final Checks C = new Checks();
    private static final Path SOURCE = Path.of("src/main/java/HostedCalls.java");
    private static final Set<String> EXCEPTIONS = Set.of("IllegalStateException", "IllegalArgumentException",
            "IndexOutOfBoundsException", "ArithmeticException", "UnsupportedOperationException",
            "NoSuchElementException", "RuntimeException");
    private static final Set<String> IMPORTS = Set.of("java.util.NoSuchElementException", "java.util.ArrayList",
            "java.util.List", "java.util.Arrays", "java.util.Iterator");

    public static void main(String[] args) throws IOException {
        String source = Files.readString(SOURCE);
        String code = source.replaceAll("(?s)/\\*.*?\\*/", "").replaceAll("//[^\n]*", "")
                .replaceAll("\"[^\"\n]*\"", "\"\"");
        wordsThatAreOut(code);
        importsAreOfTheLibrary(code);
        exceptionsAreThoseOfTheRule(code);
        libraryCallsAreThoseOfTheRule(code);
        methodsAreShort(code);
        membersAreFew(HostedCalls.class);
        for (Class<?> inside : HostedCalls.class.getDeclaredClasses()) {
            membersAreFew(inside);
        }
        C.end();
    }

    private static void wordsThatAreOut(String code) {
        List<String> out = List.of("->", "::", "\\bfinally\\b", "\\bsynchronized\\b", "\\bassert\\b", "\\btry\\s*\\(",
                "static\\s*\\{", "\"\"\\s*\\+", "\\+\\s*\"\"", "\\bpackage\\b", "\\bvar\\b", "\\bObject\\b",
                "\\bhashCode\\b", "\\btoString\\b", "\\bgetMessage\\b", "Exact\\b", "\\bextends\\s+\\w*Exception");
        for (String word : out) {
            C.due("rules 2, 6 and 10: " + word, Pattern.compile(word).matcher(code).find(), false);
        }
        C.due("rule 3: texts hold characters 0 to 255", code.chars().allMatch(c -> c < 256), true);
    }

    private static void importsAreOfTheLibrary(String code) {
        Matcher found = Pattern.compile("import\\s+([\\w.*]+);").matcher(code);
        while (found.find()) {
            C.due("rule 4: import " + found.group(1), IMPORTS.contains(found.group(1)), true);
        }
    }

    private static void exceptionsAreThoseOfTheRule(String code) {
        Matcher found = Pattern.compile("\\bthrow\\b([^;]*);").matcher(code);
        Pattern form = Pattern.compile("\\s+new\\s+(\\w+)\\((\"\")?\\)");
        while (found.find()) {
            Matcher thrown = form.matcher(found.group(1));
            boolean right = thrown.matches() && EXCEPTIONS.contains(thrown.group(1));
            C.due("rule 6: throw" + found.group(1), right, true);
        }
    }

    private static void libraryCallsAreThoseOfTheRule(String code) {
        Matcher found = Pattern.compile("\\b(System|Math|Arrays|Integer|Long|Thread|Runtime)\\.(\\w+)").matcher(code);
        while (found.find()) {
            String name = found.group(2);
            boolean right = switch (found.group(1)) {
                case "System" -> name.equals("arraycopy");
                case "Arrays" -> Set.of("copyOf", "copyOfRange", "fill").contains(name);
                case "Math", "Integer", "Long" -> true;
                default -> false;
            };
            C.due("rules 4 and 13: " + found.group(), right, true);
        }
    }

    /** A method's head is a line four or eight spaces in that ends with a brace; its end is a brace just as far in. */
    private static void methodsAreShort(String code) {
        String[] lines = code.split("\n", -1);
        for (int k = 0; k < lines.length; k++) {
            Matcher head = Pattern.compile("( {4}| {8})[a-zA-Z].*\\)[^;=]*\\{").matcher(lines[k]);
            if (!head.matches() || lines[k].contains(" class ")) {
                continue;
            }
            int end = k;
            while (end < lines.length && !lines[end].equals(head.group(1) + "}")) {
                end++;
            }
            C.due("rule 11: it is short: " + lines[k].trim(), end - k <= 60, true);
        }
    }

    private static void membersAreFew(Class<?> type) {
        int fields = 0;
        for (Field field : type.getDeclaredFields()) {
            fields += Modifier.isStatic(field.getModifiers()) ? 0 : 1;
        }
        C.due("rule 11: the fields of " + type + " are few", fields <= 20, true);
        for (Method method : type.getDeclaredMethods()) {
            C.due("rule 11: the parameters of " + method + " are few", method.getParameterCount() <= 7, true);
        }
    }
}
