import java.nio.charset.StandardCharsets;
import java.nio.file.Files;
import java.nio.file.Path;
import java.util.ArrayList;
import java.util.List;
import java.util.stream.Stream;

/** The calls in README.md answer what stands behind them, and it names each call and each test. */
public final class ReadmeTest {
    private static final Path README = Path.of("README.md");
    private static final Path TESTS = Path.of("src/test/java");
    private static final Checks CHECKS = new Checks("ReadmeTest");

    private final List<String> linesLeft = new ArrayList<>();

    public static void main(String[] args) throws Exception {
        String text = Files.readString(README, StandardCharsets.UTF_8);
        ReadmeTest test = new ReadmeTest(text);
        test.callsAnswerSo();
        CHECKS.due("calls in README.md that are not tested", List.of(), test.linesLeft);
        namesEachCall(text);
        namesEachTest(text);
        CHECKS.end();
    }

    private ReadmeTest(String text) {
        String[] parts = text.split("```");
        for (int i = 1; i < parts.length; i += 2) {
            if (parts[i].startsWith("java\n")) {
                linesLeft.addAll(List.of(parts[i].substring("java\n".length()).split("\n")));
            }
        }
    }

    private void callsAnswerSo() {
        CHECKS.due("the first line", "PowerTables tables = new PowerTables();", linesLeft.remove(0));
        PowerTables tables = new PowerTables();
        next("begin(3, 2)", tables.begin(3, 2));
        next("print(4)", tables.print(4));
        next("slip(1, 2, 3)", tables.slip(1, 2, 3));
        next("print(6)", tables.print(6));
        CHECKS.due("the printed rows that it tells", "8 27 64 125 216 643", Told.column(tables, 1).substring(0, 19));
        CHECKS.due("the wrong rows behind them", 5, tables.count(3));
        next("row(5, 3)", tables.row(5, 3));
        next("guess(0)", tables.guess(0));
        next("guess(2)", tables.guess(2));
        next("correct()", tables.correct());
        next("strike(5)", tables.strike(5));
        CHECKS.due("the row that is struck anew", 343, tables.row(5, 1));
        next("undo()", tables.undo());
        CHECKS.due("the row that is wrong again", 643, tables.row(5, 1));
        next("append('p')", tables.append('p'));
        next("append('3')", tables.append('3'));
        next("append(';')", tables.append(';'));
        next("append('c')", tables.append('c'));
        next("firstError()", tables.firstError());
        next("obey()", tables.obey());
    }

    /** The next line there is this call, and its comment begins with this answer. */
    private void next(String call, Object answer) {
        String line = linesLeft.isEmpty() ? "" : linesLeft.remove(0);
        String[] parts = line.split(" +// ", 2);
        CHECKS.due("the call", "tables." + call + ";", parts[0]);
        CHECKS.due("the answer behind " + call, answer, parts.length < 2 ? "" : parts[1].split(":", 2)[0]);
    }

    private static void namesEachCall(String text) {
        for (java.lang.reflect.Method method : PowerTables.class.getMethods()) {
            if (method.getDeclaringClass() == PowerTables.class) {
                CHECKS.isTrue("it names " + method.getName(), text.contains("`" + method.getName() + "`"));
            }
        }
    }

    private static void namesEachTest(String text) throws Exception {
        try (Stream<Path> files = Files.list(TESTS)) {
            for (Path file : files.toList()) {
                String name = file.getFileName().toString().replace(".java", "");
                CHECKS.isTrue("it names " + name, !name.endsWith("Test") || text.contains("- `" + name + "`: "));
            }
        }
    }
}
