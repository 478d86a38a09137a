import java.io.IOException;
import java.lang.reflect.Executable;
import java.lang.reflect.Field;
import java.lang.reflect.Modifier;
import java.nio.charset.StandardCharsets;
import java.nio.file.Files;
import java.nio.file.Path;
import java.util.ArrayList;
import java.util.Arrays;
import java.util.List;
import java.util.Set;
import java.util.regex.MatchResult;
import java.util.regex.Matcher;
import java.util.regex.Pattern;
import java.util.stream.Collectors;
import java.util.stream.Stream;

/**
 * The rules of LANGUAGE.md, as far as the program's text and its classes tell them. Rules 7, 9, 10
 * and 13 beyond the words that they rule out are for who reads the program.
 */
public final class LanguageTest {
    private static final Path PROGRAM = Path.of("src/main/java/ChainExchange.java");
    private static final Set<String> IMPORTS = Set.of(
            "java.util.Arrays", "java.util.NoSuchElementException", "java.util.ArrayList",
            "java.util.List", "java.util.Iterator");
    private static final Set<String> EXCEPTIONS = Set.of(
            "IllegalStateException", "IllegalArgumentException", "IndexOutOfBoundsException",
            "ArithmeticException", "UnsupportedOperationException", "NoSuchElementException",
            "RuntimeException");
    private static final Set<Class<?>> CONSTANTS = Set.of(
            int.class, long.class, boolean.class, char.class, String.class,
            int[].class, long[].class, char[].class, byte[].class);
    private static final String[] RULED_OUT = {
        "->", "::", "\\bpackage\\b", "\\bfinally\\b", "\\bsynchronized\\b", "\\bassert\\b",
        "\\bequals\\b", "\\bhashCode\\b", "\\btoString\\b", "\\bgetMessage\\b", "\\bNaN\\b",
        "\\w*Exact\\b", "\\bRandom\\b", "\\bThread\\b", "\\bstatic\\s*\\{", "\"\\s*\\+", "\\+\\s*\"",
    };

    private LanguageTest() {
    }

    public static void main(String[] args) throws IOException {
        String text = Files.readString(PROGRAM, StandardCharsets.UTF_8);
        String code = withoutComments(text);
        charactersOfTexts(text);
        imports(code);
        libraryCalls(code);
        throwsWrittenOut(code);
        ruledOut(code);
        methodLengths(code);
        recursion(code);
        classes();
        Checks.finish();
    }

    /** Texts lose their words too, so that no word of theirs is taken for code. */
    private static String withoutComments(String text) {
        return text.replaceAll("(?s)/\\*.*?\\*/", "").replaceAll("//[^\n]*", "")
                .replaceAll("\"[^\"\n]*\"", "\"\"");
    }

    /** Rule 3. */
    private static void charactersOfTexts(String text) {
        Checks.due("rule 3: characters beyond 255", 0L,
                () -> text.chars().filter(character -> character > 255).count());
    }

    /** Rule 4. */
    private static void imports(String code) {
        for (String name : found("(?m)^import (.*);", code)) {
            Checks.due("rule 4: import " + name, true, () -> IMPORTS.contains(name));
        }
    }

    /** Rule 4: the library's classes by their static functions. */
    private static void libraryCalls(String code) {
        Set<String> known = Set.of("System.arraycopy", "Arrays.copyOf", "Arrays.copyOfRange",
                "Arrays.fill");
        for (String name : found("\\b((?:System|Arrays)\\.\\w+)\\(", code)) {
            Checks.due("rule 4: " + name, true, () -> known.contains(name));
        }
        Checks.due("rule 4: System for a call alone", List.of(),
                () -> found("\\b(System\\.\\w+)\\b[^(]", code));
    }

    /** Rule 6: throw new E() or throw new E("a written text"). */
    private static void throwsWrittenOut(String code) {
        for (String thrown : found("\\bthrow\\b([^;]*);", code)) {
            Matcher form = Pattern.compile("\\s+new (\\w+)\\((\"\")?\\)").matcher(thrown);
            Checks.due("rule 6: throw" + thrown, true,
                    () -> form.matches() && EXCEPTIONS.contains(form.group(1)));
        }
        Checks.due("rule 6: throws are met", true, () -> found("\\b(throw)\\b", code).size() > 5);
    }

    /** Rules 2, 4, 5, 6, 10 and 13. */
    private static void ruledOut(String code) {
        for (String pattern : RULED_OUT) {
            Checks.due("ruled out: " + pattern, List.of(), () -> found("(" + pattern + ")", code));
        }
    }

    /** Rule 11: some sixty lines. */
    private static void methodLengths(String code) {
        for (MatchResult method : methods(code)) {
            Checks.due("rule 11: the length of " + method.group(2), true,
                    () -> method.group().lines().count() <= 60);
        }
        Checks.due("rule 11: methods are met", true, () -> methods(code).size() > 40);
    }

    /** Rule 8: of the ways that it knows a method that calls itself, the private static one. */
    private static void recursion(String code) {
        for (MatchResult method : methods(code)) {
            String name = method.group(2);
            boolean callsItself = found("(?<!\\.)\\b(" + name + ")\\(", method.group()).size() > 1;
            Checks.due("rule 8: " + name + " calls itself and is not private and static", false,
                    () -> callsItself && !method.group().strip().startsWith("private static "));
        }
    }

    /** Each method from its first line to the brace at the same depth; group 2 is its name. */
    private static List<MatchResult> methods(String code) {
        return Pattern.compile("(?ms)^( {4}| {8})(?!return |throw )(?:(?:public|private|static) )*"
                + "[\\w\\[\\]]+ (\\w+)\\(.*?^\\1\\}$").matcher(code).results()
                .collect(Collectors.toList());
    }

    private static void classes() {
        List<Class<?>> all = new ArrayList<>();
        all.add(ChainExchange.class);
        all.addAll(Arrays.asList(ChainExchange.class.getDeclaredClasses()));
        Checks.due("rule 11: twelve classes at most", true, () -> all.size() <= 12);
        for (Class<?> type : all) {
            fields(type);
            parameters(type);
        }
    }

    /** Rules 5 and 11. */
    private static void fields(Class<?> type) {
        int own = 0;
        for (Field field : type.getDeclaredFields()) {
            if (!Modifier.isStatic(field.getModifiers())) {
                own++;
                continue;
            }
            Checks.due("rule 5: " + field + " is a constant", true,
                    () -> Modifier.isFinal(field.getModifiers()) && CONSTANTS.contains(field.getType()));
        }
        int fields = own;
        Checks.due("rule 11: the fields of " + type + " are few", true, () -> fields <= 20);
    }

    /** Rule 11. */
    private static void parameters(Class<?> type) {
        List<Executable> calls = Stream.<Executable>concat(
                Stream.of(type.getDeclaredMethods()), Stream.of(type.getDeclaredConstructors()))
                .collect(Collectors.toList());
        for (Executable call : calls) {
            Checks.due("rule 11: the parameters of " + call, true, () -> call.getParameterCount() <= 7);
        }
    }

    private static List<String> found(String pattern, String code) {
        return Pattern.compile(pattern).matcher(code).results()
                .map(result -> result.group(1)).collect(Collectors.toList());
    }
}
