import java.io.IOException;
import java.lang.reflect.Executable;
import java.lang.reflect.Field;
import java.lang.reflect.Modifier;
import java.nio.file.Files;
import java.nio.file.Path;
import java.util.ArrayList;
import java.util.Arrays;
import java.util.List;
import java.util.regex.Matcher;
import java.util.regex.Pattern;

/**
 * The rules of LANGUAGE.md that can be told from the class's source and its compiled members. Some are held more
 * strictly than they say: the class catches nothing, and no call of it makes anything but an exception.
 */
public final class LanguageTest {
    private static final Path SOURCE = Path.of("src/main/java/CliqueLabels.java");
    private static final String ROOM = "    ";
    private static final int MOST_LINES = 60;
    private static final int MOST_PARAMETERS = 7;
    private static final int MOST_CLASSES = 12;
    private static final int MOST_FIELDS = 20;
    private static final List<Class<?>> CONSTANTS = List.of(int.class, long.class, boolean.class, char.class,
        String.class, int[].class, long[].class, char[].class, byte[].class);
    private static final List<String> LIBRARY = List.of("System.arraycopy", "Arrays.fill", "Arrays.copyOf",
        "Arrays.copyOfRange", "Math.max", "Math.min", "Math.abs", "Math.floorDiv", "Math.floorMod",
        "Integer.bitCount");
    private static final List<String> THROWN = List.of("IllegalStateException", "IllegalArgumentException",
        "IndexOutOfBoundsException");
    private static final String[] NOT_USED = {"\\bpackage\\b", "\\btry\\b", "\\bcatch\\b", "\\bfinally\\b",
        "\\bsynchronized\\b", "\\bassert\\b", "\\binstanceof\\b", "->", "::", "\\bstatic \\{", "Exact\\b",
        "\\bequals\\b", "\\bhashCode\\b", "\\btoString\\b", "\"\" *\\+", "\\+ *\"\"", "\\bDouble\\b", "\\bFloat\\b",
        "\\bprotected\\b", "\\bnull\\b", "\\bwhile\\b"};

    private LanguageTest() {
    }

    public static void main(String[] args) throws IOException {
        String source = Files.readString(SOURCE);
        signs(source);
        String code = withoutTexts(source);
        notUsed(code);
        imports(code);
        library(code);
        thrown(code);
        methods(code);
        members();
        Check.finish("LanguageTest");
    }

    /** The code without comments; texts are left empty in it, and characters are a 0. */
    private static String withoutTexts(String source) {
        return source.replaceAll("(?s)/\\*.*?\\*/", "").replaceAll("//[^\n]*", "").replaceAll("\"[^\"\n]*\"", "\"\"")
            .replaceAll("'[^'\n]*'", "0");
    }

    // Rule 4: "constants, whose signs are 1 to 127"
    private static void signs(String source) {
        for (int k = 0; k < source.length(); k++) {
            char sign = source.charAt(k);
            if (sign != '\n' && (sign < ' ' || sign > '~')) {
                Check.fail("sign " + (int) sign + " at " + k);
            }
        }
    }

    // Rules 2, 6, 7, 9, 10: what the class does without
    private static void notUsed(String code) {
        for (String what : NOT_USED) {
            Matcher matcher = Pattern.compile(what).matcher(code);
            Check.dueText("use of " + what, matcher.find() ? matcher.group() : "", "");
        }
    }

    private static List<String> all(String pattern, String code) {
        ArrayList<String> found = new ArrayList<>();
        Matcher matcher = Pattern.compile(pattern).matcher(code);
        while (matcher.find()) {
            found.add(matcher.group(1));
        }
        return found;
    }

    private static void imports(String code) {
        Check.dueText("imports", all("(?m)^import ([^;]*);", code).toString(), "[java.util.Arrays]");
    }

    // Rule 4: "only what stands here"
    private static void library(String code) {
        for (String call : all("\\b([A-Z][A-Za-z]*\\.[a-z]\\w*)\\(", code)) {
            String own = call.substring(0, call.indexOf('.'));
            boolean known = LIBRARY.contains(call) || CliqueLabels.class.getSimpleName().equals(own);
            Check.due(call + " is known", known ? 1 : 0, 1);
        }
    }

    // Rule 6: "throw new E() or throw new E("a written text")"
    private static void thrown(String code) {
        int thrown = all("\\b(throw)\\b", code).size();
        Check.due("all throw a written text", all("(?m)^ *(throw new) \\w+\\(\"\"\\);$", code).size(), thrown);
        for (String kind : all("throw new (\\w+)", code)) {
            Check.due(kind + " is thrown", THROWN.contains(kind) ? 1 : 0, 1);
        }
    }

    /** Methods stand in the class, or in a class in it: their lines begin with one or two steps of room. */
    private static void methods(String code) {
        String[] lines = code.split("\n");
        int seen = 0;
        for (int k = 0; k < lines.length; k++) {
            for (String room : new String[] {ROOM, ROOM + ROOM}) {
                if (lines[k].matches(room + "(?!(for|if|switch|do)\\b)\\w.*\\(.*\\{")) {
                    int end = k;
                    while (!lines[end].equals(room + "}")) {
                        end++;
                    }
                    seen++;
                    method(lines[k].trim(), Arrays.copyOfRange(lines, k + 1, end));
                }
            }
        }
        Check.due("methods are seen", seen > 80 ? 1 : 0, 1);
    }

    // Rules 6, 11 and 12: "no throw in a constructor", "some sixty lines", what a run makes
    private static void method(String head, String[] body) {
        Check.due(head + " is short", body.length <= MOST_LINES ? 1 : 0, 1);
        boolean isConstructor = head.matches("(public )?[A-Z]\\w*\\(.*");
        for (String line : body) {
            boolean makes = line.matches(".*\\bnew\\b.*") && !line.matches(" *throw new .*");
            Check.due(head + " makes: " + line.trim(), makes && !isConstructor ? 1 : 0, 0);
            Check.due(head + " throws", isConstructor && line.matches(" *throw .*") ? 1 : 0, 0);
        }
    }

    // Rules 3, 5 and 11
    private static void members() {
        ArrayList<Class<?>> classes = new ArrayList<>(Arrays.asList(CliqueLabels.class.getDeclaredClasses()));
        classes.add(CliqueLabels.class);
        Check.due("classes are few", classes.size() <= MOST_CLASSES ? 1 : 0, 1);
        for (Class<?> one : classes) {
            ArrayList<Executable> calls = new ArrayList<>(Arrays.asList(one.getDeclaredMethods()));
            calls.addAll(Arrays.asList(one.getDeclaredConstructors()));
            for (Executable call : calls) {
                Check.due(call + ": parameters", call.getParameterCount() <= MOST_PARAMETERS ? 1 : 0, 1);
            }
            fields(one, classes);
        }
    }

    private static void fields(Class<?> one, List<Class<?>> classes) {
        int fields = 0;
        for (Field field : one.getDeclaredFields()) {
            if (Modifier.isStatic(field.getModifiers())) {
                boolean isConstant = Modifier.isFinal(field.getModifiers()) && CONSTANTS.contains(field.getType());
                Check.due(field + " is a constant", isConstant ? 1 : 0, 1);
            } else {
                fields++;
                Check.due(field + " has a type of the language", isOfTheLanguage(field.getType(), classes) ? 1 : 0, 1);
            }
        }
        Check.due(one + ": fields", fields <= MOST_FIELDS ? 1 : 0, 1);
    }

    private static boolean isOfTheLanguage(Class<?> type, List<Class<?>> classes) {
        Class<?> element = type.isArray() ? type.getComponentType() : type;
        if (element.isArray()) {
            Class<?> number = element.getComponentType();
            return number.isPrimitive() && number != boolean.class;
        }
        return element.isPrimitive() || classes.contains(element);
    }
}
