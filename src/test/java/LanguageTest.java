import java.io.IOException;
import java.lang.reflect.Constructor;
import java.lang.reflect.Field;
import java.lang.reflect.Modifier;
import java.nio.charset.StandardCharsets;
import java.nio.file.Files;
import java.nio.file.Path;
import java.util.ArrayList;
import java.util.Arrays;
import java.util.List;
import java.util.regex.Matcher;
import java.util.regex.Pattern;

/** The rules of LANGUAGE.md, as far as the text and the members of the class tell whether they are kept. */
public final class LanguageTest {
    private static final Path SOURCE = Path.of("src/main/java/RangePropagator.java");

    private static final List<String> IMPORTS = List.of("java.util.NoSuchElementException");

    /** What the class takes of the library; LANGUAGE.md, rule 4 allows more. */
    private static final List<String> LIBRARY = List.of("Math.min", "Math.max", "Math.floorMod", "System.arraycopy");

    private static final List<String> EXCEPTIONS = List.of("IllegalStateException", "IllegalArgumentException",
            "IndexOutOfBoundsException", "NoSuchElementException");

    private static final List<String> FORBIDDEN_WORDS = List.of("package", "protected", "synchronized", "assert",
            "volatile", "transient", "native", "try", "catch", "finally", "getMessage", "hashCode", "toString", "equals",
            "Object", "Random", "Thread", "System.currentTimeMillis", "System.nanoTime", "float", "double");

    private static final Pattern METHOD = Pattern.compile(
            "( {4}| {8})(?:public|private|static|void|int|long|boolean|[A-Z]\\w*)\\b[^=;]*\\([^;]*");
    private static final int LONGEST_METHOD = 60;

    private final String code;

    private LanguageTest(String text) {
        // Comments first: a quotation mark in one begins no text.
        code = text.replaceAll("(?s)/\\*.*?\\*/", "").replaceAll("//[^\n]*", "");
    }

    public static void main(String[] args) throws IOException {
        String text = Files.readString(SOURCE, StandardCharsets.UTF_8);
        LanguageTest test = new LanguageTest(text);
        Check.all("LanguageTest",
                () -> signs(text),
                test::words,
                test::imports,
                test::library,
                test::throwsAreWrittenOut,
                test::methodsAreShort,
                LanguageTest::fields,
                LanguageTest::constructorsHandOutNothing);
    }

    private static List<Class<?>> classes() {
        List<Class<?>> all = new ArrayList<>(Arrays.asList(RangePropagator.class.getDeclaredClasses()));
        all.add(RangePropagator.class);
        return all;
    }

    private List<String> found(String pattern) {
        List<String> all = new ArrayList<>();
        Matcher matcher = Pattern.compile(pattern, Pattern.MULTILINE).matcher(code);
        while (matcher.find()) {
            all.add(matcher.group(1));
        }
        return all;
    }

    private static void signs(String text) {
        Check.sentence("LANGUAGE.md, rule 4", "constants, whose signs are 1 to 127");
        Check.yes("the whole file", text.chars().allMatch(sign -> 1 <= sign && sign <= 127));
    }

    private void words() {
        Check.sentence("LANGUAGE.md, rules 1, 2, 3, 5, 6 and 13", "what the class may not have");
        String bare = code.replaceAll("\"[^\"]*\"", "\"\"");
        for (String word : FORBIDDEN_WORDS) {
            Check.no(word, Pattern.compile("\\b" + Pattern.quote(word) + "\\b").matcher(bare).find());
        }
        Check.no("a lambda", bare.contains("->"));
        Check.no("a method reference", bare.contains("::"));
        Check.no("a static initialiser", Pattern.compile("static\\s*\\{").matcher(bare).find());
        Check.no("texts that are joined by +", Pattern.compile("\"\\s*\\+|\\+\\s*\"").matcher(bare).find());
    }

    private void imports() {
        Check.sentence("LANGUAGE.md, rule 4", "The library: only what stands here.");
        List<String> got = found("^import (.*);");
        Check.yes("imports " + got, got.equals(IMPORTS));
    }

    private void library() {
        Check.sentence("LANGUAGE.md, rule 4", "The library: only what stands here.");
        for (String call : found("\\b((?:Math|System|Integer|Long|Arrays|String|StringBuilder|List)\\.\\w+)\\(")) {
            Check.yes(call, LIBRARY.contains(call));
        }
    }

    private void throwsAreWrittenOut() {
        Check.sentence("LANGUAGE.md, rule 6", "throw new E() or throw new E(\"a written text\")");
        List<String> written = found("\\bthrow new (\\w+)\\(\"[^\"]*\"\\);");
        Check.equal("throws that are written so", written.size(), found("\\b(throw)\\b").size());
        for (String exception : written) {
            Check.yes(exception, EXCEPTIONS.contains(exception));
        }
    }

    /** Methods of the class begin with four spaces, those of the classes inside with eight. */
    private void methodsAreShort() {
        Check.sentence("LANGUAGE.md, rule 11", "Methods stay short (some sixty lines)");
        String[] lines = code.split("\n");
        int methods = 0;
        for (int first = 0; first < lines.length; first++) {
            Matcher head = METHOD.matcher(lines[first]);
            if (head.matches()) {
                methods++;
                int last = first;
                while (last + 1 < lines.length && !lines[last].equals(head.group(1) + "}")) {
                    last++;
                }
                Check.yes(lines[first].trim() + " has " + (last - first + 1) + " lines", last - first < LONGEST_METHOD);
            }
        }
        int declared = 0;
        for (Class<?> each : classes()) {
            declared += each.getDeclaredMethods().length;
        }
        Check.yes("all of the " + declared + " methods are among the " + methods, methods >= declared);
    }

    private static void fields() {
        Check.sentence("LANGUAGE.md, rules 5 and 11", "Static fields are final ... a class some twenty fields");
        for (Class<?> each : classes()) {
            int ofAnObject = 0;
            for (Field field : each.getDeclaredFields()) {
                boolean isStatic = Modifier.isStatic(field.getModifiers());
                ofAnObject += isStatic ? 0 : 1;
                Check.yes(field + " is final", !isStatic || Modifier.isFinal(field.getModifiers()));
            }
            Check.yes(each + " has some twenty fields", ofAnObject <= 20);
        }
    }

    private static void constructorsHandOutNothing() {
        Check.sentence("LANGUAGE.md, rule 12", "A constructor ... hands out nothing of the object that it makes.");
        for (Class<?> each : classes()) {
            for (Constructor<?> constructor : each.getDeclaredConstructors()) {
                // What a constructor does not take, another one cannot hand to it.
                Check.equal(constructor + " takes nothing", constructor.getParameterCount(), 0);
            }
        }
    }
}
