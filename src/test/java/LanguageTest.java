import java.nio.charset.StandardCharsets;
import java.nio.file.Files;
import java.nio.file.Path;
import java.util.Arrays;
import java.util.HashSet;
import java.util.List;
import java.util.Set;
import java.util.regex.Matcher;
import java.util.regex.Pattern;

/** The source keeps to ../shared/LANGUAGE.md, as far as its words tell; it does without any library. */
public final class LanguageTest {
    private static final Path SOURCE = Path.of("src/main/java/PowerTables.java");
    private static final Checks CHECKS = new Checks("LanguageTest");
    private static final int LONGEST_METHOD = 60;
    private static final int MOST_CLASSES = 12;
    private static final int MOST_FIELDS = 20;
    private static final int MOST_PARAMETERS = 7;

    public static void main(String[] args) throws Exception {
        String source = Files.readString(SOURCE, StandardCharsets.UTF_8);
        CHECKS.isTrue("the signs are plain", source.matches("[\\n -~]*"));
        String code = source.replaceAll("(?s)/\\*.*?\\*/", "").replaceAll("//[^\\n]*", "");
        wordsThatAreRuledOut(code);
        namesOfClasses(code);
        thrownTexts(code);
        staticFields(code);
        sizes(code);
        CHECKS.end();
    }

    private static void wordsThatAreRuledOut(String code) {
        String[] words = {
            "import", "package", "try", "catch", "finally", "synchronized", "assert", "instanceof", "protected", "native",
            "volatile", "transient", "strictfp", "yield", "var", "while", "do", "equals", "hashCode", "toString", "record"
        };
        for (String word : words) {
            CHECKS.isTrue("no " + word, !Pattern.compile("\\b" + word + "\\b").matcher(code).find());
        }
        for (String sign : new String[] {"->", "::", "@", "...", "\\u"}) {
            CHECKS.isTrue("no " + sign, !code.contains(sign));
        }
    }

    /** Only the classes inside and the three exceptions: so neither Double nor Math nor any text. */
    private static void namesOfClasses(String code) {
        Set<String> known = new HashSet<>(List.of(
            "PowerTables", "IllegalArgumentException", "IllegalStateException", "IndexOutOfBoundsException"));
        Matcher inside = Pattern.compile("private static final class (\\w+) \\{").matcher(code);
        int classes = 1;
        while (inside.find()) {
            known.add(inside.group(1));
            classes++;
        }
        CHECKS.isTrue("few classes", classes <= MOST_CLASSES);
        CHECKS.due("all classes are private and static", classes, code.split("\\bclass\\b").length - 1);
        String words = code.replaceAll("\"[^\"\\n]*\"", "");
        Matcher name = Pattern.compile("\\b[A-Z][A-Za-z]*[a-z][A-Za-z]*\\b").matcher(words);
        while (name.find()) {
            CHECKS.isTrue("the class " + name.group() + " may be used", known.contains(name.group()));
        }
    }

    private static void thrownTexts(String code) {
        Matcher thrown = Pattern.compile("\\bthrow\\b[^;]*;").matcher(code);
        while (thrown.find()) {
            CHECKS.isTrue(thrown.group(), thrown.group().matches("throw new I\\w+Exception\\(\"[^\"]*\"\\);"));
        }
    }

    private static void staticFields(String code) {
        int constants = 0;
        for (String line : code.split("\\n")) {
            if (Pattern.compile("\\bstatic\\b").matcher(line).find() && !line.contains("(") && !line.contains("class")) {
                constants++;
                CHECKS.isTrue("a constant: " + line.trim(), line.trim().matches(
                    "(public|private) static final (int|long|boolean|char) [A-Z_]+ = -?[0-9]+L?;"));
            }
        }
        CHECKS.isTrue("constants are found", constants > 10);
    }

    private static void sizes(String code) {
        Matcher method = Pattern.compile("(?ms)^( {4}| {8})(?! )([^\\n;={}]+\\([^;={}]*)\\{$(.*?)^\\1\\}$").matcher(code);
        int methods = 0;
        while (method.find()) {
            methods++;
            String head = method.group(2);
            CHECKS.isTrue("a short method: " + head, method.group(3).split("\\n").length <= LONGEST_METHOD);
            String parameters = head.substring(0, head.indexOf(')'));
            CHECKS.isTrue("few parameters: " + head, parameters.split(",").length <= MOST_PARAMETERS);
        }
        CHECKS.due("all methods are found", methodsOfClass(), methods);
        for (Class<?> each : PowerTables.class.getDeclaredClasses()) {
            fewFields(each);
        }
        fewFields(PowerTables.class);
    }

    /** With the two constructors that are written out. */
    private static int methodsOfClass() {
        int methods = 2 + PowerTables.class.getDeclaredMethods().length;
        for (Class<?> each : PowerTables.class.getDeclaredClasses()) {
            methods += each.getDeclaredMethods().length;
        }
        return methods;
    }

    private static void fewFields(Class<?> each) {
        long fields = Arrays.stream(each.getDeclaredFields())
            .filter(field -> !java.lang.reflect.Modifier.isStatic(field.getModifiers())).count();
        CHECKS.isTrue("few fields: " + each, fields <= MOST_FIELDS);
    }
}
