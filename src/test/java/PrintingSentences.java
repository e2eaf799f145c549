import java.util.function.Supplier;

/** The sentences of the promises 1 to 8. */
final class PrintingSentences {
    private static final Class<IllegalArgumentException> ILLEGAL = IllegalArgumentException.class;
    private static final Class<IllegalStateException> STATE = IllegalStateException.class;
    private static final Class<IndexOutOfBoundsException> INDEX = IndexOutOfBoundsException.class;

    private final Sentences s;

    PrintingSentences(Sentences sentences) {
        s = sentences;
    }

    void check() {
        newObject();
        begin();
        beginThrows();
        print();
        printThrows();
        slip();
        slipArguments();
        slipThrows();
        correct();
        strike();
        strikeThrows();
        renew();
        set();
        setThrows();
    }

    private void newObject() {
        s.section("Promise 1: A new object");
        s.holds("Creates the first table, without rows, with an empty buffer.", () -> {
            s.due("counts", "2 0 0 0 -1 0 0 0 0 0 0 0", Told.counts(new PowerTables()));
            s.due("settings", "5 50", Told.settings(new PowerTables()));
            s.due("registers", "0 1 2 0 0 0", Told.registers(new PowerTables(), false));
            s.due("wears", "0 0 0 0 0 0 0 0 0 0", Told.wears(new PowerTables()));
            s.due("the buffer", "0 0", new PowerTables().firstError() + " " + new PowerTables().clearBuffer());
            s.refuses(INDEX, PowerTables::new, "the row 0", x -> x.row(0, 0));
            s.refuses(STATE, PowerTables::new, "undo", PowerTables::undo);
        });
    }

    // ---- begin

    private void begin() {
        s.section("Promise 2: begin");
        s.holds("Begins a new table: no rows, the registers right for the row 0;", () -> {
            for (Supplier<PowerTables> make : States.ALL) {
                PowerTables x = make.get();
                x.begin(4, 1);
                s.due("no rows", "4 1 0 0 -1 0 0 0 0", Told.counts(x).substring(0, 18));
                s.due("the registers", "1 15 50 60 24 0", Told.registers(x, false));
                s.due("the right registers", "1 15 50 60 24 0", Told.registers(x, true));
                s.due("no row 0", "throws IndexOutOfBoundsException", Checks.answerOf(() -> x.row(0, 0)));
                x.print(40);
                s.due("room for 40 rows", 40, x.count(2));
            }
        });
        s.holds("types and what is counted so far stay.", () -> {
            PowerTables x = States.busy();
            String stays = Told.wears(x) + " / " + x.count(9) + " " + x.count(10) + " / " + Told.settings(x);
            x.begin(0, 99);
            s.due("types and counts",
                stays, Told.wears(x) + " / " + x.count(9) + " " + x.count(10) + " / " + Told.settings(x));
            PowerTables worn = States.begun(0, 0);
            worn.set(1, 2);
            worn.print(2);
            worn.begin(0, 1);
            s.due("a worn type is worn in the new table", 1, worn.print(1));
        });
        s.holds("Undoable.", () -> {
            s.alwaysUndoable("begin", x -> x.begin(0, 99));
            s.undoable("begin of the same table", States::light, x -> x.begin(2, 7));
        });
        s.holds("- `power`: 0 to 5", () -> {
            for (int power : States.inside(0, 5)) {
                s.due("power " + power, power, States.begun(power, 3).count(0));
            }
        });
        s.holds("- `first`: 0 to 99", () -> {
            for (int first : States.inside(0, 99)) {
                s.due("first " + first, first, States.begun(3, first).count(1));
            }
        });
        s.holds("Returns how many rows the one ahead had.", () -> {
            PowerTables x = new PowerTables();
            s.due("none", 0, x.begin(2, 0));
            for (int rows : States.inside(1, 40)) {
                x.print(rows);
                s.due("rows", rows, x.begin(2, 0));
            }
            s.due("none again", 0, x.begin(2, 0));
        });
    }

    private void beginThrows() {
        s.holds("Throws `IllegalArgumentException` if power or first is out of range", () -> {
            for (int power : States.outside(0, 5)) {
                s.alwaysRefuses(ILLEGAL, "power " + power, x -> x.begin(power, 0));
            }
            for (int first : States.outside(0, 99)) {
                s.alwaysRefuses(ILLEGAL, "first " + first, x -> x.begin(0, first));
            }
            s.alwaysRefuses(ILLEGAL, "both", x -> x.begin(6, 100));
        });
    }

    // ---- print

    private void print() {
        s.section("Promise 3: print");
        s.holds("Prints rows.", () -> {
            PowerTables x = States.begun(3, 2);
            x.print(3);
            s.due("rows", "8 27 64", Told.column(x, 1));
            x.print(1);
            s.due("one more", "8 27 64 125", Told.column(x, 1));
            s.due("the registers for the next", "216 127 42 6 0 0", Told.registers(x, false));
        });
        s.holds("Undoable, as one call.", () -> {
            s.undoable("print(36)", States::light, x -> x.print(36));
            s.undoable("print(1)", States::busy, x -> x.print(1));
            s.undoable("print(40)", PowerTables::new, x -> x.print(40));
        });
        s.holds("- `rows`: 1 to 40", () -> {
            for (int rows : States.inside(1, 40)) {
                PowerTables x = new PowerTables();
                x.print(rows);
                s.due("rows", rows, x.count(2));
                s.due("the last one", (rows - 1L) * (rows - 1L), x.row(rows - 1, 1));
            }
        });
        s.holds("Returns how many of their digits are blurred.", () -> {
            PowerTables x = States.begun(0, 0);
            x.set(1, 3);
            s.due("as often as the type bears", 0, x.print(3));
            s.due("once more", 1, x.print(1));
            s.due("of all these rows", 36, x.print(36));
            x.begin(0, 0);
            x.renew(1);
            s.due("some of these rows", 2, x.print(5));
        });
    }

    private void printThrows() {
        s.holds("Throws `IllegalArgumentException` if rows is out of range", () -> {
            for (int rows : States.outside(1, 40)) {
                s.alwaysRefuses(ILLEGAL, "rows " + rows, x -> x.print(rows));
            }
        });
        s.holds("Throws `IllegalStateException` if there would be more than 40 rows", () -> {
            for (int there : States.inside(1, 40)) {
                Supplier<PowerTables> make = () -> {
                    PowerTables x = States.begun(1, 5);
                    x.print(there);
                    return x;
                };
                s.refuses(STATE, make, "one too many behind " + there, x -> x.print(41 - there));
                s.refuses(STATE, make, "40 behind " + there, x -> x.print(40));
                if (there < 40) {
                    PowerTables x = make.get();
                    x.print(40 - there);
                    s.due("just enough behind " + there, 40, x.count(2));
                }
            }
            PowerTables anew = States.full();
            anew.begin(0, 0);
            anew.print(40);
            s.due("40 rows of a new table", 40, anew.count(2));
        });
    }

    // ---- slip

    private void slip() {
        s.section("Promise 4: slip");
        s.holds("A register slips: it becomes more by some times 10 to the power of a column.", () -> {
            for (int register = 0; register <= 5; register++) {
                long power = 1;
                for (int column = 0; column <= 9; column++) {
                    slipsOf(register, column, power);
                    power *= 10;
                }
            }
        });
        s.holds("Undoable.", () -> {
            s.alwaysUndoable("slip", x -> x.slip(5, 4, -5));
            s.alwaysUndoable("slip by 0", x -> x.slip(5, 9, 0));
            PowerTables x = States.light();
            String before = Told.registers(x, false);
            x.slip(2, 3, 0);
            s.due("a slip by 0 changes no register", before, Told.registers(x, false));
        });
    }

    private void slipsOf(int register, int column, long power) {
        for (int by = -9; by <= 9; by++) {
            PowerTables x = States.begun(5, 2);
            long before = x.register(register, false);
            long answered = x.slip(register, column, by);
            s.due("by " + by + " in column " + column, by * power, answered);
            s.due("register " + register, before + by * power, x.register(register, false));
            s.due("wrong ones", by == 0 ? 0 : 1, x.count(8));
        }
    }

    private void slipArguments() {
        s.holds("- `register`: 0 to 5", () -> {
            for (int register : States.inside(0, 5)) {
                PowerTables x = States.begun(0, 0);
                x.slip(register, 0, 7);
                s.due("register " + register, register == 0 ? 8 : 7, x.register(register, false));
            }
        });
        s.holds("- `column`: 0 to 9", () -> {
            s.due("column 0", 3, new PowerTables().slip(1, 0, 3));
            s.due("column 1", 30, new PowerTables().slip(1, 1, 3));
            s.due("column 8", 300000000, new PowerTables().slip(1, 8, 3));
            s.due("column 9", 3000000000L, new PowerTables().slip(1, 9, 3));
        });
        s.holds("- `by`: -9 to 9", () -> {
            for (int by : States.inside(-9, 9)) {
                s.due("by " + by, by, new PowerTables().slip(2, 0, by));
            }
            s.due("by 0", 0, new PowerTables().slip(2, 0, 0));
        });
        s.holds("Returns by how much, as a number.", () -> {
            s.due("the most", 9000000000L, new PowerTables().slip(4, 9, 9));
            s.due("the least", -9000000000L, new PowerTables().slip(4, 9, -9));
            s.due("nothing", 0, new PowerTables().slip(4, 9, 0));
            s.due("of a register that is not 0", 10, States.begun(5, 99).slip(0, 1, 1));
        });
    }

    private void slipThrows() {
        s.holds("Throws `IndexOutOfBoundsException` if there is no such register", () -> {
            for (int register : States.outside(0, 5)) {
                s.alwaysRefuses(INDEX, "register " + register, x -> x.slip(register, 0, 1));
                s.alwaysRefuses(INDEX, "register " + register + " and all", x -> x.slip(register, 10, 10));
            }
        });
        s.holds("Throws `IllegalArgumentException` if column or by is out of range", () -> {
            for (int column : States.outside(0, 9)) {
                s.alwaysRefuses(ILLEGAL, "column " + column, x -> x.slip(5, column, 1));
            }
            for (int by : States.outside(-9, 9)) {
                s.alwaysRefuses(ILLEGAL, "by " + by, x -> x.slip(0, 0, by));
            }
            s.refuses(ILLEGAL, () -> loaded(1, 1), "column 10 at the limit", x -> x.slip(1, 10, 1));
            s.refuses(ILLEGAL, () -> loaded(1, 1), "by 10 at the limit", x -> x.slip(1, 0, 10));
        });
        s.holds("Throws `IllegalStateException` if the register, without its sign, would be above 99999999999", () -> {
            for (int register = 0; register <= 5; register++) {
                limitOfSlips(register, 1);
                limitOfSlips(register, -1);
            }
            aboveByPrinting();
        });
    }

    /** The register is at the limit, above 0 or below. */
    private static PowerTables loaded(int register, int sign) {
        PowerTables x = States.begun(1, 0);
        if (register == 1) {
            x.slip(1, 0, -1);
        }
        States.load(x, register, sign);
        return x;
    }

    private void limitOfSlips(int register, int sign) {
        String what = "register " + register + " at the limit";
        Supplier<PowerTables> make = () -> loaded(register, sign);
        PowerTables x = make.get();
        s.due(what, sign * 99999999999L, x.register(register, false));
        s.due(what + ": by 0", 0, x.slip(register, 9, 0));
        s.refuses(STATE, make, what + ": one more", each -> each.slip(register, 0, sign));
        s.refuses(STATE, make, what + ": most more", each -> each.slip(register, 9, 9 * sign));
        s.due(what + ": one less", -sign, x.slip(register, 0, -sign));
        s.due(what + ": one more again", sign, x.slip(register, 0, sign));
        s.due(what + ": another register", 9 * sign, x.slip(5 - register, 0, 9 * sign));
        x.slip(register, 9, -9 * sign);
        s.due(what + ": back up to it", 9000000000L * sign, x.slip(register, 9, 9 * sign));
        s.due(what + ": at it again", sign * 99999999999L, x.register(register, false));
        for (int i = 0; i < 22; i++) {
            x.slip(register, 9, -9 * sign);
        }
        s.due(what + ": across 0", sign * -98000000001L, x.register(register, false));
    }

    /** Printing brings the register 0 to 108000000001, which a slip can bring down alone. */
    private static PowerTables raised() {
        PowerTables x = States.begun(0, 0);
        x.slip(1, 9, 9);
        x.print(12);
        return x;
    }

    private void aboveByPrinting() {
        s.due("above the limit by printing", 108000000001L, raised().register(0, false));
        s.refuses(STATE, PrintingSentences::raised, "by 0 it still would be", x -> x.slip(0, 0, 0));
        s.refuses(STATE, PrintingSentences::raised, "less, it still would be", x -> x.slip(0, 9, -8));
        PowerTables x = raised();
        s.due("less, it would not", -9000000000L, x.slip(0, 9, -9));
        s.due("below the limit again", 99000000001L, x.register(0, false));
    }

    // ---- correct

    private void correct() {
        s.section("Promise 5: correct");
        s.holds("Puts the registers right for the next row.", () -> {
            for (int rows : new int[] {0, 1, 39, 40}) {
                PowerTables x = States.begun(3, 2);
                for (int register = 0; register <= 5; register++) {
                    x.slip(register, register, 1);
                }
                for (int row = 0; row < rows; row++) {
                    x.print(1);
                }
                String errors = Told.column(x, 3);
                x.correct();
                s.due("registers", Told.registers(x, true), Told.registers(x, false));
                s.due("the register 0", (2L + rows) * (2L + rows) * (2L + rows), x.register(0, false));
                s.due("none is wrong", 0, x.count(8));
                s.due("rows stay as they are", errors, Told.column(x, 3));
            }
        });
        s.holds("Undoable.", () -> {
            s.alwaysUndoable("correct", PowerTables::correct);
            s.undoable("correct of right ones", () -> States.begun(5, 5), PowerTables::correct);
        });
        s.holds("Returns how many were wrong.", () -> {
            for (int wrong = 0; wrong <= 6; wrong++) {
                PowerTables x = States.begun(4, 3);
                for (int register = 0; register < wrong; register++) {
                    x.slip(5 - register, 0, register % 2 == 0 ? 1 : -1);
                }
                s.due("wrong", wrong, x.correct());
                s.due("none is left", 0, x.correct());
            }
            PowerTables x = new PowerTables();
            x.slip(2, 0, 1);
            x.print(1);
            s.due("register 1 becomes wrong by register 2", 2, x.correct());
        });
    }

    // ---- strike

    private void strike() {
        s.section("Promise 6: strike");
        s.holds("Strikes a row anew: it is printed again, with its right number (its digits wear the types, and can be "
            + "blurred).", () -> {
                PowerTables x = States.begun(1, 11);
                x.slip(0, 1, 5);
                x.print(3);
                s.due("errors", "50 50 50", Told.column(x, 3));
                s.due("wears", "0 1 1 1 0 0 3 0 0 0", Told.wears(x));
                x.strike(0);
                x.strike(2);
                s.due("numbers", "11 62 13", Told.column(x, 1));
                s.due("errors behind it", "0 50 0", Told.column(x, 3));
                s.due("wears behind it", "0 4 1 2 0 0 3 0 0 0", Told.wears(x));
                s.due("digits printed and rows struck", "10 2", x.count(9) + " " + x.count(10));
                s.due("registers", "64 1 0 0 0 0", Told.registers(x, false));
                x.set(1, 4);
                s.due("11 again, of a type that bears 4", 2, x.strike(0));
                x.renew(1);
                s.due("11 again, of a new type", 0, x.strike(0));
                s.due("blurs", "0 0 0", Told.column(x, 4));
            });
        s.holds("Undoable.", () -> {
            s.undoable("strike of a right row", States::light, x -> x.strike(0));
            s.undoable("strike of a wrong row", States::busy, x -> x.strike(8));
            s.undoable("strike of the row 39", States::full, x -> x.strike(39));
        });
    }

    private void strikeThrows() {
        s.holds("- `row`: its number", () -> {
            PowerTables x = States.full();
            for (int row : States.inside(0, 39)) {
                s.due("blurs of " + row, true, x.strike(row) >= 0);
                s.due("the error of " + row, 0, x.row(row, 3));
            }
        });
        s.holds("Returns how many of its digits are blurred.", () -> {
            PowerTables x = States.begun(0, 0);
            x.set(1, 2);
            x.print(1);
            s.due("as often as the type bears", 0, x.strike(0));
            s.due("once more", 1, x.strike(0));
            PowerTables three = States.begun(2, 38);
            three.set(1, 2);
            three.print(1);
            s.due("1444, once ahead: all but the 1", 3, three.strike(0));
        });
        s.holds("Throws `IndexOutOfBoundsException` if there is no such row", () -> {
            for (int row : States.outside(0, 3)) {
                s.refuses(INDEX, States::light, row + " of 4 rows", x -> x.strike(row));
            }
            for (int row : States.outside(0, 39)) {
                s.alwaysRefuses(INDEX, row + " of at most 40 rows", x -> x.strike(row));
            }
            s.refuses(INDEX, PowerTables::new, "0 without rows", x -> x.strike(0));
            s.refuses(INDEX, () -> {
                PowerTables x = States.light();
                x.begin(1, 1);
                return x;
            }, "a row of the table ahead", x -> x.strike(0));
        });
    }

    // ---- renew

    private void renew() {
        s.section("Promise 7: renew");
        s.holds("Renews the type of a digit: its wear is 0; rows that are printed stay as they are.", () -> {
            PowerTables x = States.begun(0, 0);
            x.set(1, 2);
            x.print(5);
            x.renew(1);
            s.due("wear", 0, x.wear(1));
            s.due("blurs stay", "0 0 1 1 1", Told.column(x, 4));
            s.due("digits stay counted", 5, x.count(9));
            s.due("it bears as much as a new one", 0, x.print(2));
            s.due("and no more", 1, x.print(1));
        });
        s.holds("Undoable.", () -> {
            s.alwaysUndoable("renew(0)", x -> x.renew(0));
            s.alwaysUndoable("renew(9)", x -> x.renew(9));
        });
        s.holds("- `digit`: 0 to 9", () -> {
            for (int digit : States.inside(0, 9)) {
                PowerTables x = States.begun(1, 0);
                x.print(10);
                x.renew(digit);
                s.due("types that are not new but " + digit, 9, Told.wears(x).split("1", -1).length - 1);
                s.due("the type " + digit, 0, x.wear(digit));
            }
        });
        s.holds("Returns the wear that it had.", () -> {
            PowerTables x = States.begun(0, 0);
            s.due("a new one", 0, x.renew(1));
            x.print(40);
            s.due("a worn one", 40, x.renew(1));
            s.due("a renewed one", 0, x.renew(1));
        });
        s.holds("Throws `IndexOutOfBoundsException` if there is no such digit", () -> {
            for (int digit : States.outside(0, 9)) {
                s.alwaysRefuses(INDEX, "digit " + digit, x -> x.renew(digit));
            }
        });
    }

    // ---- set

    private void set() {
        s.section("Promise 8: set");
        s.holds("Changes a setting.", () -> {
            PowerTables x = States.busy();
            String rows = Told.column(x, 1) + " / " + Told.column(x, 4);
            x.set(0, 9);
            s.due("one group of 9", "1 9 4", x.count(5) + " " + Told.settings(x));
            x.set(1, 1);
            s.due("settings", "9 1", Told.settings(x));
            s.due("rows stay as they are", rows, Told.column(x, 1) + " / " + Told.column(x, 4));
        });
        s.holds("Undoable.", () -> {
            s.alwaysUndoable("set(0, 20)", x -> x.set(0, 20));
            s.alwaysUndoable("set(1, 999)", x -> x.set(1, 999));
            s.undoable("set to the same", States::light, x -> x.set(1, 50));
        });
        s.holds("- `setting`: 0 or 1", () -> {
            PowerTables x = new PowerTables();
            x.set(0, 2);
            s.due("setting 0", "2 50", Told.settings(x));
            x.set(1, 2);
            s.due("setting 1", "2 2", Told.settings(x));
        });
        s.holds("- `value`: the new value", () -> {
            PowerTables x = new PowerTables();
            for (int value : States.inside(1, 20)) {
                x.set(0, value);
                s.due("setting 0", value, x.setting(0));
            }
            for (int value : new int[] {1, 2, 20, 21, 998, 999}) {
                x.set(1, value);
                s.due("setting 1", value, x.setting(1));
            }
        });
        s.holds("Returns the previous value.", () -> {
            PowerTables x = new PowerTables();
            s.due("the first ones", "5 50", x.set(0, 1) + " " + x.set(1, 1));
            s.due("the least ones", "1 1", x.set(0, 20) + " " + x.set(1, 999));
            s.due("the greatest ones", "20 999", x.set(0, 20) + " " + x.set(1, 999));
            s.due("the same ones", "20 999", x.set(0, 5) + " " + x.set(1, 50));
        });
    }

    private void setThrows() {
        s.holds("Throws `IndexOutOfBoundsException` if there is no such setting", () -> {
            for (int setting : States.outside(0, 1)) {
                s.alwaysRefuses(INDEX, "setting " + setting, x -> x.set(setting, 1));
                s.alwaysRefuses(INDEX, "setting " + setting + " and value", x -> x.set(setting, 0));
            }
        });
        s.holds("Throws `IllegalArgumentException` if value is out of range", () -> {
            for (int value : States.outside(1, 20)) {
                s.alwaysRefuses(ILLEGAL, "groups of " + value, x -> x.set(0, value));
            }
            s.alwaysRefuses(ILLEGAL, "groups of 50", x -> x.set(0, 50));
            s.alwaysRefuses(ILLEGAL, "groups of 999", x -> x.set(0, 999));
            for (int value : States.outside(1, 999)) {
                s.alwaysRefuses(ILLEGAL, "wear " + value, x -> x.set(1, value));
            }
        });
    }
}
