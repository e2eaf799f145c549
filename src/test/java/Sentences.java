import java.util.ArrayList;
import java.util.Comparator;
import java.util.LinkedHashMap;
import java.util.List;
import java.util.Map;
import java.util.function.Function;
import java.util.function.Supplier;

/** The sentences of the document, as the tests quote them, each with a test of its own. */
final class Sentences {
    private final Checks checks;
    private final Map<String, List<String>> quotes = new LinkedHashMap<>();
    private String section = "";
    private String sentence = "";

    Sentences(Checks checks) {
        this.checks = checks;
    }

    /** What is quoted from now on stands under this heading of the document. */
    void section(String heading) {
        section = heading;
        quotes.putIfAbsent(heading, new ArrayList<>());
    }

    void holds(String quote, Runnable test) {
        saysNoAnswer(quote);
        int before = checks.checked();
        test.run();
        checks.isTrue(section + ": " + quote + ": it is tested", checks.checked() > before);
    }

    /** A heading, or a sentence that no answer could break. */
    void saysNoAnswer(String quote) {
        quotes.get(section).add(quote);
        sentence = quote;
    }

    void due(String what, Object want, Object got) {
        checks.due(section + ": " + sentence + ": " + what, want, got);
    }

    /** The call throws this, and leaves its object, and what undo gives back, as those of one that is not called. */
    void refuses(Class<? extends RuntimeException> want, Supplier<PowerTables> make, String what,
            Function<PowerTables, Object> call) {
        PowerTables called = make.get();
        due(what, "throws " + want.getSimpleName(), Checks.answerOf(() -> call.apply(called)));
        staysAs(make.get(), called, what);
    }

    /** Of an object in any of the states. */
    void alwaysRefuses(Class<? extends RuntimeException> want, String what, Function<PowerTables, Object> call) {
        for (Supplier<PowerTables> make : States.ALL) {
            refuses(want, make, what, call);
        }
    }

    /** The call throws nothing, and changes nothing either. */
    void changesNothing(String what, Supplier<PowerTables> make, Function<PowerTables, Object> call) {
        PowerTables called = make.get();
        due(what + " throws", false, Checks.answerOf(() -> call.apply(called)).startsWith("throws "));
        staysAs(make.get(), called, what);
    }

    /** Of an object in any of the states. */
    void alwaysChangesNothing(String what, Function<PowerTables, Object> call) {
        for (Supplier<PowerTables> make : States.ALL) {
            changesNothing(what, make, call);
        }
    }

    private void staysAs(PowerTables twin, PowerTables called, String what) {
        due(what + ": what is told behind it", Told.all(twin), Told.all(called));
        due(what + ": what undo gives back", Told.behind(twin), Told.behind(called));
    }

    /** The call saves one state, and undo gives back all but the buffer, which is made alike for that. */
    void undoable(String what, Supplier<PowerTables> make, Function<PowerTables, Object> call) {
        PowerTables called = make.get();
        PowerTables twin = make.get();
        int states = called.count(11);
        due(what + " throws", false, Checks.answerOf(() -> call.apply(called)).startsWith("throws "));
        due(what + ": saved states", Math.min(states + 1, 6), called.count(11));
        due(what + ": undo", Math.min(states, 5), called.undo());
        due(what + ": undone", Told.table(twin), Told.table(called));
        called.clearBuffer();
        twin.clearBuffer();
        if (states < 6) {
            staysAs(twin, called, what + ", undone");
        }
    }

    /** Of an object in any of the states. */
    void alwaysUndoable(String what, Function<PowerTables, Object> call) {
        for (Supplier<PowerTables> make : States.ALL) {
            undoable(what, make, call);
        }
    }

    /** The call saves no state, and changes nothing but the buffer. */
    void notUndoable(String what, Supplier<PowerTables> make, Function<PowerTables, Object> call) {
        PowerTables called = make.get();
        PowerTables twin = make.get();
        due(what + " throws", false, Checks.answerOf(() -> call.apply(called)).startsWith("throws "));
        called.clearBuffer();
        twin.clearBuffer();
        staysAs(twin, called, what);
    }

    /** The sentences that are quoted are those of the document, all of them. */
    void areThoseOf(List<String> lines) {
        Map<String, String> texts = sectionsOf(lines);
        for (Map.Entry<String, List<String>> each : quotes.entrySet()) {
            String rest = texts.getOrDefault(each.getKey(), "");
            checks.isTrue("the document has a section " + each.getKey(), !rest.isEmpty());
            List<String> longestFirst = new ArrayList<>(each.getValue());
            longestFirst.sort(Comparator.comparingInt(String::length).reversed());
            for (String quote : longestFirst) {
                int at = rest.indexOf(quote);
                checks.isTrue(each.getKey() + " says: " + quote, at >= 0);
                if (at >= 0) {
                    rest = rest.substring(0, at) + " " + rest.substring(at + quote.length());
                }
            }
            checks.due(each.getKey() + ": what no test quotes", "", rest.trim());
        }
        for (String heading : texts.keySet()) {
            boolean promises = heading.startsWith("Promise ") || heading.equals("Terms");
            checks.isTrue(heading + " is tested", !promises || quotes.containsKey(heading));
        }
    }

    /** Each section's text in one line; of a promise, without its method's head. */
    private static Map<String, String> sectionsOf(List<String> lines) {
        Map<String, String> texts = new LinkedHashMap<>();
        String heading = "";
        for (String line : lines) {
            if (line.startsWith("## ")) {
                heading = line.substring(3);
            } else {
                texts.merge(heading, line, (text, more) -> text + " " + more);
            }
        }
        texts.replaceAll((each, text) -> text.replaceAll("\\s+", " ").trim());
        texts.replaceAll((each, text) -> each.startsWith("Promise ") ? text.replaceFirst("^`[^`]*`: ", "") : text);
        return texts;
    }
}
