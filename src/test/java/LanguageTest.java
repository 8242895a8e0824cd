import java.io.IOException;
import java.lang.reflect.Field;
import java.lang.reflect.Method;
import java.lang.reflect.Modifier;
import java.nio.file.Files;
import java.nio.file.Path;
import java.util.ArrayList;
import java.util.Arrays;
import java.util.List;
import java.util.Set;
import java.util.TreeSet;
import java.util.regex.Matcher;
import java.util.regex.Pattern;

/**
 * What of LANGUAGE.md can be read off the source and the compiled class. It asks for less than the rules allow,
 * where this class needs less: no library, no try, no recursion, and no object made but with the object itself.
 */
public final class LanguageTest extends Bench {
    private static final Set<String> THROWN = new TreeSet<>(Arrays.asList(
        "IllegalStateException", "IllegalArgumentException", "IndexOutOfBoundsException",
        "UnsupportedOperationException"));
    private static final String[] UNUSED = {
        "package", "import", "try", "catch", "finally", "synchronized", "assert", "instanceof", "volatile", "native",
        "transient", "strictfp", "enum", "record", "interface", "extends", "implements", "var", "double", "float",
        "String", "StringBuilder", "Math", "Arrays", "System", "Thread", "Object", "null", "super"};
    private static final Pattern METHOD = Pattern.compile(
        "^ {4,8}(?:(?:public|private|static|final) )*(?:int|long|boolean|void) (\\w+)\\(([^)]*)\\)");

    public static void main(String[] args) throws IOException {
        List<String> lines = Files.readAllLines(Path.of("src/main/java/CountedHeap.java"));
        String code = withoutCommentsAndTexts(String.join("\n", lines));
        words(code);
        thrown(code);
        made(code);
        methods(code.split("\n", -1));
        List<Class<?>> classes = new ArrayList<>(Arrays.asList(CountedHeap.class.getDeclaredClasses()));
        classes.add(CountedHeap.class);
        fields(classes);
        names(classes);
        CHECK.done();
    }

    private static String withoutCommentsAndTexts(String source) {
        return source.replaceAll("\"[^\"\n]*\"", "\"\"").replaceAll("(?s)/\\*.*?\\*/", "").replaceAll("//[^\n]*", "");
    }

    private static void words(String code) {
        CHECK.about("rules 2, 3, 4, 6 and 13: what the class does not use");
        for (String word : UNUSED) {
            CHECK.is(word, Pattern.compile("\\b" + word + "\\b").matcher(code).find(), false);
        }
        CHECK.is("a lambda or a method reference", code.contains("->") || code.contains("::"), false);
        CHECK.is("a static initialiser", Pattern.compile("static\\s*\\{").matcher(code).find(), false);
    }

    private static void thrown(String code) {
        CHECK.about("rule 6: throw new E(\"a written text\")");
        Matcher found = Pattern.compile("\\bthrow\\b([^;]*);").matcher(code);
        while (found.find()) {
            Matcher sound = Pattern.compile(" new (\\w+)\\(\"\"\\)").matcher(found.group(1));
            CHECK.is("throw" + found.group(1), sound.matches() && THROWN.contains(sound.group(1)), true);
        }
    }

    private static void made(String code) {
        CHECK.about("rule 12: only fields and throws make anything");
        for (String line : code.split("\n")) {
            if (Pattern.compile("\\bnew\\b").matcher(line).find()) {
                String trimmed = line.trim();
                CHECK.is(trimmed, trimmed.startsWith("private final ") || trimmed.startsWith("throw "), true);
            }
        }
    }

    private static void methods(String[] code) {
        CHECK.about("rules 8 and 11: methods are short, take at most seven numbers and do not call themselves");
        int seen = 0;
        for (int at = 0; at < code.length; at++) {
            Matcher method = METHOD.matcher(code[at]);
            if (method.find()) {
                seen++;
                method(code, at, method);
            }
        }
        CHECK.is("methods are seen", seen > 17, true);
    }

    private static void method(String[] code, int at, Matcher method) {
        String end = code[at].replaceAll("\\S.*", "") + "}";
        Pattern itself = Pattern.compile("(?<!\\.)\\b" + method.group(1) + "\\(");
        int length = 1;
        while (at + length < code.length && !code[at + length].equals(end)) {
            CHECK.is(method.group(1) + " calls itself", itself.matcher(code[at + length]).find(), false);
            length++;
        }
        CHECK.is(method.group(1) + " is short", length < 60, true);
        CHECK.is(method.group(1) + " takes at most seven", method.group(2).split(",").length <= 7, true);
    }

    private static void fields(List<Class<?>> classes) {
        CHECK.about("rules 5 and 11: static fields are final, and the rest are some twenty at most");
        CHECK.is("classes", classes.size() <= 12, true);
        for (Class<?> each : classes) {
            int own = 0;
            for (Field field : each.getDeclaredFields()) {
                boolean shared = Modifier.isStatic(field.getModifiers());
                CHECK.is(field + " changes", shared && !Modifier.isFinal(field.getModifiers()), false);
                own += shared ? 0 : 1;
            }
            CHECK.is(each.getName() + " has so many fields", own <= 20, true);
        }
    }

    private static void names(List<Class<?>> classes) {
        CHECK.about("rule 1: no private method, also of a class inside, bears the name of a public one");
        Set<String> face = new TreeSet<>();
        for (Method method : CountedHeap.class.getMethods()) {
            face.add(method.getName());
        }
        for (Class<?> each : classes) {
            for (Method method : each.getDeclaredMethods()) {
                CHECK.is(method.toString(),
                    face.contains(method.getName()) && !Modifier.isPublic(method.getModifiers()), false);
            }
        }
    }
}
