import java.math.BigInteger;

/** The sentences of the document's beginning, and of its Terms up to the settings. */
final class TermsSentences {
    private static final Class<IllegalArgumentException> ILLEGAL = IllegalArgumentException.class;
    private static final Class<IllegalStateException> STATE = IllegalStateException.class;
    private static final Class<IndexOutOfBoundsException> INDEX = IndexOutOfBoundsException.class;

    private final Sentences s;

    TermsSentences(Sentences sentences) {
        s = sentences;
    }

    void check() {
        s.section("What it is");
        useOf512Calls();
        s.section("Terms");
        tables();
        registers();
        printing();
        types();
        errors();
        groups();
        settings();
    }

    private void useOf512Calls() {
        s.saysNoAnswer("Tables of powers laid by an abacus printer without a wrong digit: registers of differences from "
            + "which each row comes by adding, rows that are printed digit by digit, slips that make a register wrong "
            + "and all rows behind it, checks by sums of some rows, errors whose own differences tell which register "
            + "slipped and when, registers that are put right again, types of digits that wear and print blurred, rows "
            + "that are struck anew, columns of a page, what would be, orders as texts with errors by place, and undo.");
        s.holds("An object is used for at most 512 calls after it has been made; what later calls answer is free.", () -> {
            PowerTables x = new PowerTables();
            x.set(1, 999);
            for (int table = 1; table <= 255; table++) {
                s.due("begin, call " + 2 * table, table == 1 ? 0 : 40, x.begin(0, 0));
                int blurred = Math.max(0, Math.min(40, 40 * table - 999));
                s.due("print, call " + (2 * table + 1), blurred, x.print(40));
            }
            s.due("wear, call 512", 10200, x.wear(1));
        });
    }

    // ---- tables, registers

    private void tables() {
        s.holds("All numbers are integers, but for a share; divisions are rounded down.", () -> {
            PowerTables x = States.begun(0, 0);
            for (int rows = 1; rows <= 12; rows++) {
                x.print(1);
                s.due("groups of 5 in " + rows + " rows", rows < 5 ? 0 : rows < 10 ? 1 : 2, x.count(5));
            }
            s.due("a share", 0.5, States.withErrors(1, 0).rightness());
        });
        s.saysNoAnswer("Tables, registers");
        s.holds("A table has a power, 0 to 5, at first 2;", () -> {
            s.due("at first", 2, new PowerTables().count(0));
            s.due("numbers at first", "0 1 4 9", printedRows(new PowerTables(), 4));
            String[] numbers = {"1 1", "3 4", "9 16", "27 64", "81 256", "243 1024"};
            for (int power = 0; power <= 5; power++) {
                s.due("power " + power, numbers[power], printedRows(States.begun(power, 3), 2));
            }
            s.alwaysRefuses(ILLEGAL, "power -1", x -> x.begin(-1, 0));
            s.alwaysRefuses(ILLEGAL, "power 6", x -> x.begin(6, 0));
        });
        s.holds("a first argument, 0 to 99, at first 0;", () -> {
            s.due("at first", 0, new PowerTables().count(1));
            for (int first : States.inside(0, 99)) {
                s.due("first " + first, first + " " + (first + 1), printedRows(States.begun(1, first), 2));
            }
            s.alwaysRefuses(ILLEGAL, "first -1", x -> x.begin(0, -1));
            s.alwaysRefuses(ILLEGAL, "first 100", x -> x.begin(0, 100));
        });
        s.holds("and at most 40 rows,", () -> {
            PowerTables x = new PowerTables();
            for (int rows = 1; rows <= 40; rows++) {
                x.print(1);
                s.due("rows", rows, x.count(2));
            }
            s.due("the 40th row", 1521, x.row(39, 1));
            s.refuses(STATE, States::full, "a 41st row", full -> full.print(1));
            States.write(x, "p1");
            s.due("a 41st row as an order", "0 40", x.obey() + " " + x.count(2));
        });
        s.holds("numbered from 0, that are printed one by one.", () -> {
            s.due("rows", "7 8 9", printedRows(States.begun(1, 7), 3));
            s.refuses(INDEX, States::light, "the row -1", x -> x.row(-1, 0));
            s.refuses(INDEX, States::light, "the row 4 of 4", x -> x.row(4, 0));
        });
        rightNumbers();
    }

    private static String printedRows(PowerTables x, int rows) {
        x.print(rows);
        return Told.column(x, 1);
    }

    private void rightNumbers() {
        s.holds("The right number of the row i is the argument (the first one and i) to the power", () -> {
            for (int power = 0; power <= 5; power++) {
                for (int first : States.inside(0, 99)) {
                    PowerTables x = States.begun(power, first);
                    x.slip(0, 9, -9);
                    x.print(40);
                    for (int row : States.inside(0, 39)) {
                        s.due(first + row + " to the power " + power,
                            BigInteger.valueOf(first + row).pow(power), x.row(row, 2));
                    }
                }
            }
        });
        s.holds("(0 to the power 0 is 1).", () -> {
            for (int power = 0; power <= 5; power++) {
                s.due("0 and 1 to the power " + power, power == 0 ? "1 1" : "0 1",
                    printedRows(States.begun(power, 0), 2));
            }
        });
    }

    private void registers() {
        s.holds("There are 6 registers, numbered from 0.", () -> {
            PowerTables x = States.begun(5, 0);
            s.due("registers", "0 1 30 150 240 120", Told.registers(x, false));
            for (int register : States.outside(0, 5)) {
                s.alwaysRefuses(INDEX, "register " + register, each -> each.register(register, false));
            }
        });
        s.holds("They are right for the row i if the register j is the j-th difference of the right numbers at the row "
            + "i: the 0-th difference there is the right number of the row, the j-th one the (j - 1)-th difference of "
            + "the row behind it less that of the row.", () -> {
                for (int power = 0; power <= 5; power++) {
                    for (int first : States.inside(0, 99)) {
                        rightRegisters(power, first);
                    }
                }
            });
        s.holds("At first they are right for the row 0.", () -> {
            PowerTables x = new PowerTables();
            s.due("registers", "0 1 2 0 0 0", Told.registers(x, false));
            s.due("right registers", "0 1 2 0 0 0", Told.registers(x, true));
            s.due("wrong ones", 0, x.count(8));
        });
    }

    private void rightRegisters(int power, int first) {
        PowerTables x = States.begun(power, first);
        for (int row = 0; row <= 40; row++) {
            if (row < 2 || row > 38) {
                StringBuilder due = new StringBuilder();
                for (int order = 0; order < 6; order++) {
                    due.append(order == 0 ? "" : " ").append(difference(order, power, first + row));
                }
                s.due("right for the row " + row, due, Told.registers(x, true));
                s.due("as they are for the row " + row, due, Told.registers(x, false));
            }
            if (row < 40) {
                x.print(1);
            }
        }
    }

    private static BigInteger difference(int order, int power, int argument) {
        return order == 0
            ? BigInteger.valueOf(argument).pow(power)
            : difference(order - 1, power, argument + 1).subtract(difference(order - 1, power, argument));
    }

    private void printing() {
        s.holds("To print a row: it gets the number of the register 0, whatever it is.", () -> {
            PowerTables x = States.begun(1, 1);
            x.slip(0, 9, -9);
            s.due("below 0", "-8999999999 -8999999998", printedRows(x, 2));
            PowerTables most = States.begun(0, 0);
            States.load(most, 1, 1);
            s.due("above the limit of slips", "1 100000000000 199999999999", printedRows(most, 3));
            PowerTables least = States.begun(0, 0);
            States.load(least, 5, -1);
            least.print(40);
            s.due("the row 39: 575757 times the register 5", -57575699999424242L, least.row(39, 1));
        });
        s.holds("Then each register j from 0 to 4 becomes more by the register j + 1 (as that was ahead of this row).",
            () -> {
                PowerTables x = States.begun(0, 0);
                for (int register = 1; register <= 5; register++) {
                    x.slip(register, register, 1);
                }
                s.due("ahead", "1 10 100 1000 10000 100000", Told.registers(x, false));
                x.print(1);
                s.due("behind a row", "11 110 1100 11000 110000 100000", Told.registers(x, false));
                x.print(1);
                s.due("behind two", "121 1210 12100 121000 210000 100000", Told.registers(x, false));
            });
    }

    // ---- types

    private void types() {
        s.holds("A number is printed as its digits, without its sign (0 as one digit 0).", () -> {
            digitsOf(0, "1 0 0 0 0 0 0 0 0 0");
            digitsOf(7, "0 0 0 0 0 0 0 1 0 0");
            digitsOf(-7, "0 0 0 0 0 0 0 1 0 0");
            digitsOf(9, "0 0 0 0 0 0 0 0 0 1");
            digitsOf(10, "1 1 0 0 0 0 0 0 0 0");
            digitsOf(-100, "2 1 0 0 0 0 0 0 0 0");
            digitsOf(1020, "2 1 1 0 0 0 0 0 0 0");
            digitsOf(9876543210L, "1 1 1 1 1 1 1 1 1 1");
            digitsOf(-9876543210L, "1 1 1 1 1 1 1 1 1 1");
            longestNumbers();
        });
        s.holds("There are types of the digits 0 to 9; each time a digit is printed, the wear of its type becomes 1 more, "
            + "at first 0.", () -> {
                PowerTables x = States.begun(1, 0);
                s.due("at first", "0 0 0 0 0 0 0 0 0 0", Told.wears(x));
                for (int digit = 0; digit <= 9; digit++) {
                    x.print(1);
                    s.due("printed up to " + digit, digit + 1, Told.wears(x).split("1", -1).length - 1);
                }
                x.strike(9);
                s.due("9 is struck", "1 1 1 1 1 1 1 1 1 2", Told.wears(x));
                s.alwaysRefuses(INDEX, "the type -1", each -> each.wear(-1));
                s.alwaysRefuses(INDEX, "the type 10", each -> each.wear(10));
            });
        s.holds("A digit is blurred in a row if the wear of its type is above setting 1 behind printing it;", () -> {
            s.due("111 of a type that bears 3", "0", blurs(111, 3));
            s.due("1111 of a type that bears 3", "1", blurs(1111, 3));
            s.due("111 of a type that bears 1", "2", blurs(111, 1));
            s.due("1212 of types that bear 1", "2", blurs(1212, 1));
            s.due("0 of a type that bears 1", "0", blurs(0, 1));
            s.due("-11 of a type that bears 1", "1", blurs(-11, 1));
        });
        s.holds("the row keeps how many of its digits are blurred.", () -> {
            PowerTables x = States.begun(1, 11);
            x.set(1, 1);
            x.print(1);
            x.renew(1);
            x.set(1, 999);
            x.print(1);
            x.correct();
            s.due("blurs", "1 0", Told.column(x, 4));
        });
    }

    private void digitsOf(long number, String wears) {
        PowerTables x = States.begun(1, 0);
        States.slipBy(x, number);
        x.print(1);
        s.due("types of " + number, wears, Told.wears(x));
        s.due("digits of " + number, Long.toString(Math.abs(number)).length(), x.count(9));
    }

    private void longestNumbers() {
        for (int sign = -1; sign <= 1; sign += 2) {
            PowerTables x = States.begun(0, 0);
            States.load(x, 5, sign);
            x.print(40);
            int digits = 0;
            for (int row = 0; row < 40; row++) {
                digits += Long.toString(Math.abs(x.row(row, 1))).length();
            }
            s.due("numbers of up to 17 digits", digits, x.count(9));
            s.due("the longest one", 17, Long.toString(Math.abs(x.row(39, 1))).length());
        }
    }

    private static String blurs(long number, int limit) {
        PowerTables x = States.begun(1, 0);
        x.set(1, limit);
        States.slipBy(x, number);
        x.print(1);
        return Told.column(x, 4);
    }

    // ---- errors, checks

    private void errors() {
        s.saysNoAnswer("Errors, checks");
        s.holds("The error of a row is its printed number less the right one; it is wrong if that is not 0.", () -> {
            PowerTables x = States.withErrors(-1, 0, 1, 8999999999L, -9000000000L);
            s.due("errors", "-1 0 1 8999999999 -9000000000", Told.column(x, 3));
            s.due("wrong rows", 4, x.count(3));
            PowerTables minus = States.begun(1, 3);
            States.slipBy(minus, -6);
            s.due("the right number without its sign", "-3", printedRows(minus, 1));
            s.due("its error", -6, minus.row(0, 3));
            s.due("it is wrong", 1, minus.count(3));
        });
    }

    private void groups() {
        s.holds("The rows are checked in groups of setting 0 rows, from the row 0 on, those that are printed whole;",
            () -> {
                s.due("no group is whole", "0 0", groupsOf(0, 0, 0, 1));
                s.due("the last row of the group 0", "1 1", groupsOf(0, 0, 0, 0, 1));
                s.due("the first row of the group 1", "1 0", groupsOf(0, 0, 0, 0, 0, 1, 0, 0, 0));
                s.due("the group 1 is whole", "2 1", groupsOf(0, 0, 0, 0, 0, 1, 0, 0, 0, 0));
                s.due("both groups", "2 2", groupsOf(0, 0, 0, 0, 1, 1, 0, 0, 0, 0));
            });
        s.holds("a group is found wrong if the sum of its printed numbers is not that of the right ones.", () -> {
            s.due("less by 1", "1 1", groupsOf(5, 0, 0, 0, -6));
            s.due("not less", "1 0", groupsOf(5, 0, 0, 1, -6));
            s.due("more by 1", "1 1", groupsOf(5, 0, 0, 0, -4));
        });
        s.holds("(So errors that cancel each other are not found.)", () -> {
            s.due("in a group", "1 0", groupsOf(0, 7, 0, 0, -7));
            s.due("all of a group", "1 0", groupsOf(1, 2, 3, 4, -10));
            s.due("in two groups", "2 2", groupsOf(0, 0, 0, 0, 7, -7, 0, 0, 0, 0));
        });
    }

    private static String groupsOf(long... errors) {
        PowerTables x = States.withErrors(errors);
        return x.count(5) + " " + x.count(6);
    }

    private void settings() {
        s.holds("0: the rows of a group, 1 to 20, at first 5;", () -> {
            s.due("at first", 5, new PowerTables().setting(0));
            for (int value : States.inside(1, 20)) {
                PowerTables x = new PowerTables();
                x.set(0, value);
                x.print(value == 1 ? 1 : value - 1);
                s.due("one row too few for " + value, value == 1 ? 1 : 0, x.count(5));
                x.print(1);
                s.due("rows of " + value, value == 1 ? 2 : 1, x.count(5));
            }
            s.alwaysRefuses(ILLEGAL, "groups of 0", x -> x.set(0, 0));
            s.alwaysRefuses(ILLEGAL, "groups of 21", x -> x.set(0, 21));
        });
        s.holds("1: how much a type can wear, 1 to 999, at first 50.", () -> {
            s.due("at first", 50, new PowerTables().setting(1));
            PowerTables x = States.begun(0, 0);
            s.due("40 digits 1", 0, x.print(40));
            x.begin(0, 0);
            s.due("50 digits 1", 0, x.print(10));
            s.due("the 51st digit 1", 1, x.print(1));
            for (int value : States.inside(1, 999)) {
                s.due("a type can wear " + value, 50, x.set(1, value));
                x.undo();
            }
            s.alwaysRefuses(ILLEGAL, "wear 0", each -> each.set(1, 0));
            s.alwaysRefuses(ILLEGAL, "wear 1000", each -> each.set(1, 1000));
        });
    }
}
