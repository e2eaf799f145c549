/** The sentences of the promises 14 to 20. */
final class LooksSentences {
    private static final Class<IllegalArgumentException> ILLEGAL = IllegalArgumentException.class;
    private static final Class<IndexOutOfBoundsException> INDEX = IndexOutOfBoundsException.class;

    private final Sentences s;

    LooksSentences(Sentences sentences) {
        s = sentences;
    }

    void check() {
        row();
        register();
        group();
        groupReturns();
        difference();
        wear();
        count();
        setting();
    }

    private void row() {
        s.section("Promise 14: row");
        s.holds("Returns something of a row.", () -> s.changesNothing("row", States::busy, x -> x.row(8, 1)));
        s.holds("- `row`: its number", () -> {
            PowerTables x = States.begun(1, 60);
            x.print(40);
            for (int row : States.inside(0, 39)) {
                s.due("row " + row, 60 + row, x.row(row, 1));
            }
        });
        s.holds("- `what`: 0: its argument; 1: its printed number; 2: its right number; 3: its error; 4: how many of its "
            + "digits are blurred", () -> {
                PowerTables x = States.begun(2, 98);
                x.set(1, 1);
                x.slip(0, 2, -1);
                x.print(3);
                s.due("0", "98 99 100", Told.column(x, 0));
                s.due("1", "9504 9701 9900", Told.column(x, 1));
                s.due("2", "9604 9801 10000", Told.column(x, 2));
                s.due("3", "-100 -100 -100", Told.column(x, 3));
                s.due("4", "0 2 4", Told.column(x, 4));
            });
        s.holds("Returns the number.", () -> {
            PowerTables x = fullOfPower5();
            s.due("138 to the power 5", 50049003168L, x.row(39, 2));
            s.due("it is printed so", 50049003168L, x.row(39, 1));
        });
        s.holds("Throws `IndexOutOfBoundsException` if there is no such row", () -> {
            for (int row : States.outside(0, 39)) {
                s.alwaysRefuses(INDEX, "row " + row, x -> x.row(row, 0));
                s.alwaysRefuses(INDEX, "row " + row + " and what", x -> x.row(row, -1));
            }
            s.refuses(INDEX, PowerTables::new, "the row 0 of none", x -> x.row(0, 0));
            s.refuses(INDEX, States::light, "the row 4 of 4", x -> x.row(4, 1));
            s.refuses(INDEX, States::busy, "the row 9 of 9", x -> x.row(9, 4));
            s.due("the row 3 of 4", 10, States.light().row(3, 0));
        });
        s.holds("Throws `IllegalArgumentException` if what is not 0 to 4", () -> {
            for (int what : States.outside(0, 4)) {
                s.refuses(ILLEGAL, States::light, "what " + what, x -> x.row(3, what));
                s.refuses(ILLEGAL, States::full, "what " + what, x -> x.row(0, what));
            }
        });
    }

    private void register() {
        s.section("Promise 15: register");
        s.holds("Returns a register.", () -> s.alwaysChangesNothing("register", x -> x.register(0, false)));
        s.holds("- `register`: 0 to 5", () -> {
            PowerTables x = States.begun(5, 1);
            s.due("0", 1, x.register(0, false));
            s.due("1", 31, x.register(1, false));
            s.due("4", 360, x.register(4, false));
            s.due("5", 120, x.register(5, false));
        });
        s.holds("- `isRight`: whether it is told as it would be right for the next row, otherwise as it is", () -> {
            PowerTables x = States.begun(4, 1);
            x.slip(4, 0, -4);
            s.due("as they are", "1 15 50 60 20 0", Told.registers(x, false));
            s.due("as they would be right", "1 15 50 60 24 0", Told.registers(x, true));
            x.print(1);
            s.due("as they are", "16 65 110 80 20 0", Told.registers(x, false));
            s.due("right for the row 1", "16 65 110 84 24 0", Told.registers(x, true));
            x.print(39);
            s.due("right for the row 40, which can't be printed", "2825761 285935 21170 1020 24 0",
                Told.registers(x, true));
        });
        s.holds("Returns the number.", () -> {
            PowerTables x = States.begun(0, 0);
            States.load(x, 3, -1);
            s.due("the least by slips", -99999999999L, x.register(3, false));
            s.due("the right one", 0, x.register(3, true));
            s.due("the greatest right one", 51888844699L, fullOfPower5().register(0, true));
        });
        s.holds("Throws `IndexOutOfBoundsException` if there is no such register", () -> {
            for (int register : States.outside(0, 5)) {
                s.alwaysRefuses(INDEX, "register " + register, x -> x.register(register, false));
                s.alwaysRefuses(INDEX, "right register " + register, x -> x.register(register, true));
            }
        });
    }

    private static PowerTables fullOfPower5() {
        PowerTables x = States.begun(5, 99);
        x.print(40);
        return x;
    }

    private void group() {
        s.section("Promise 16: group");
        s.holds("Returns something of a group of rows.",
            () -> s.alwaysChangesNothing("group", x -> x.group(1, 0)));
        s.holds("- `group`: its number, from 0", () -> {
            PowerTables x = States.begun(1, 1);
            x.print(40);
            x.set(0, 1);
            s.due("40 groups of 1", "1 1 0 0 / 2 2 0 0 / 40 40 0 0 / 0 0 0 0",
                groups(x, 0, 1, 39, 40));
            x.set(0, 20);
            s.due("2 groups of 20", "210 210 0 0 / 610 610 0 0 / 0 0 0 0", groups(x, 0, 1, 2));
            x.set(0, 19);
            s.due("2 groups of 19", "190 190 0 0 / 551 551 0 0 / 0 0 0 0", groups(x, 0, 1, 2));
        });
        s.holds("- `what`: 0: the sum of its printed numbers; 1: that of its right numbers; 2: 1 if it is found wrong, "
            + "otherwise 0; 3: how many of its rows are wrong", () -> {
                PowerTables x = States.withErrors(0, 0, 0, 0, 0, 3, 0, 0, -4, 0, 7, 0, -7, 0, 0, 1, 1, 1, 1, 1);
                s.due("none is wrong", "5 5 0 0", Told.group(x, 0));
                s.due("two are wrong", "4 5 1 2", Told.group(x, 1));
                s.due("two are wrong, and not found", "5 5 0 2", Told.group(x, 2));
                s.due("all are wrong", "10 5 1 5", Told.group(x, 3));
            });
    }

    private static String groups(PowerTables x, int... groups) {
        StringBuilder told = new StringBuilder();
        for (int group : groups) {
            told.append(told.length() == 0 ? "" : " / ").append(Told.group(x, group));
        }
        return told.toString();
    }

    private void groupReturns() {
        s.holds("Returns the number; 0 if it is not printed whole.", () -> {
            PowerTables x = States.withErrors(5, 5, 5, 5);
            s.due("four rows of five", "0 0 0 0", Told.group(x, 0));
            States.printWrong(x, 5);
            s.due("five rows of five", "30 5 1 5", Told.group(x, 0));
            s.due("no row of five", "0 0 0 0", Told.group(x, 1));
            s.due("of a new object", "0 0 0 0", Told.group(new PowerTables(), 0));
            for (int size = 1; size <= 20; size++) {
                farGroups(size);
            }
            PowerTables most = States.begun(0, 0);
            most.set(0, 20);
            States.load(most, 5, 1);
            most.print(40);
            s.due("the greatest sum", 379961999996200400L, most.group(1, 0));
        });
        s.holds("Throws `IllegalArgumentException` if group is below 0, or what is not 0 to 3", () -> {
            for (int group : new int[] {-1, -2, -40, Integer.MIN_VALUE, Integer.MIN_VALUE + 1}) {
                s.alwaysRefuses(ILLEGAL, "group " + group, x -> x.group(group, 0));
            }
            for (int what : States.outside(0, 3)) {
                s.alwaysRefuses(ILLEGAL, "what " + what, x -> x.group(0, what));
                s.alwaysRefuses(ILLEGAL, "what " + what + " of a far group", x -> x.group(99, what));
            }
            s.alwaysRefuses(ILLEGAL, "both", x -> x.group(-1, 4));
        });
    }

    /** Groups whose rows, reckoned as int numbers, would come round to the rows that there are. */
    private void farGroups(int size) {
        PowerTables x = States.full();
        x.set(0, size);
        long round = 1L << 32;
        for (long turn = 1; turn <= size; turn++) {
            long group = (turn * round + size - 1) / size;
            if (group <= Integer.MAX_VALUE) {
                s.due("group " + group + " of " + size, "0 0 0 0", Told.group(x, (int) group));
            }
        }
        s.due("the farthest group of " + size, "0 0 0 0", Told.group(x, Integer.MAX_VALUE));
    }

    private void difference() {
        s.section("Promise 17: difference");
        s.holds("Returns a difference of printed numbers.", () -> {
            PowerTables x = States.withErrors(0, 9, 0);
            s.due("of wrong ones", "9 -18", x.difference(1, 0) + " " + x.difference(2, 0));
            s.changesNothing("difference", States::busy, each -> each.difference(5, 0));
        });
        s.holds("- `order`: 0 to 5", () -> {
            PowerTables x = States.begun(5, 1);
            x.print(6);
            s.due("0", 1, x.difference(0, 0));
            s.due("1", 31, x.difference(1, 0));
            s.due("4", 360, x.difference(4, 0));
            s.due("5", 120, x.difference(5, 0));
        });
        s.holds("- `row`: the first row of those that it is made of", () -> {
            PowerTables x = States.begun(2, 0);
            x.print(40);
            s.due("row 0", "0 1 2", x.difference(0, 0) + " " + x.difference(1, 0) + " " + x.difference(2, 0));
            s.due("row 1", "1 3 2", x.difference(0, 1) + " " + x.difference(1, 1) + " " + x.difference(2, 1));
            s.due("row 38", "1444 77", x.difference(0, 38) + " " + x.difference(1, 38));
            s.due("row 39", 1521, x.difference(0, 39));
        });
        s.holds("Returns the difference of this order at the row, of printed numbers; 0 if the rows behind it do not "
            + "suffice.", () -> {
                PowerTables x = fullOfPower5();
                for (int order = 0; order <= 5; order++) {
                    s.due("order " + order + ", just enough", printedDifference(x, order, 39 - order),
                        x.difference(order, 39 - order));
                    s.due("order " + order + ", not 0", true, x.difference(order, 39 - order) != 0);
                    if (order > 0) {
                        s.due("order " + order + ", a row too few", 0, x.difference(order, 40 - order));
                        s.due("order " + order + ", at the last row", 0, x.difference(order, 39));
                    }
                }
                s.due("order 5 of the last rows", 120, x.difference(5, 34));
            });
        differenceThrows();
    }

    private static long printedDifference(PowerTables x, int order, int row) {
        return order == 0
            ? x.row(row, 1)
            : printedDifference(x, order - 1, row + 1) - printedDifference(x, order - 1, row);
    }

    private void differenceThrows() {
        s.holds("Throws `IllegalArgumentException` if order is out of range", () -> {
            for (int order : States.outside(0, 5)) {
                s.refuses(ILLEGAL, States::busy, "order " + order, x -> x.difference(order, 0));
                s.alwaysRefuses(ILLEGAL, "order " + order + " and row", x -> x.difference(order, 40));
            }
        });
        s.holds("Throws `IndexOutOfBoundsException` if there is no such row", () -> {
            for (int row : States.outside(0, 39)) {
                s.alwaysRefuses(INDEX, "row " + row, x -> x.difference(0, row));
                s.alwaysRefuses(INDEX, "row " + row, x -> x.difference(5, row));
            }
            s.refuses(INDEX, PowerTables::new, "the row 0 of none", x -> x.difference(0, 0));
            s.refuses(INDEX, States::light, "the row 4 of 4", x -> x.difference(1, 4));
            s.due("the row 3 of 4", 0, States.light().difference(1, 3));
        });
    }

    private void wear() {
        s.section("Promise 18: wear");
        s.holds("Returns the wear of a type.", () -> {
            PowerTables x = States.begun(3, 11);
            x.print(2);
            s.due("1331 and 1728", "0 3 1 2 0 0 0 1 1 0", Told.wears(x));
        });
        s.holds("- `digit`: 0 to 9", () -> {
            PowerTables x = States.withErrors(-1, 8, 8);
            s.due("0 and 9", "1 2", x.wear(0) + " " + x.wear(9));
            s.due("1 and 8", "0 0", x.wear(1) + " " + x.wear(8));
        });
        s.holds("Returns the wear.", () -> {
            PowerTables x = States.begun(0, 0);
            s.due("of a new type", 0, x.wear(1));
            x.set(1, 1);
            x.print(40);
            s.due("of a type that is worn more than it can be", 40, x.wear(1));
        });
        s.holds("Throws `IndexOutOfBoundsException` if there is no such digit", () -> {
            for (int digit : States.outside(0, 9)) {
                s.alwaysRefuses(INDEX, "digit " + digit, x -> x.wear(digit));
            }
        });
    }

    private void count() {
        s.section("Promise 19: count");
        s.holds("- `what`: 0: the power; 1: the first argument; 2: rows; 3: wrong rows; 4: the first wrong row, NONE if "
            + "there is none; 5: groups that are printed whole; 6: those that are found wrong; 7: blurred digits of all "
            + "rows; 8: registers that are wrong now; 9: digits that were printed so far; 10: rows that were struck anew "
            + "so far; 11: saved states", () -> {
                PowerTables x = States.begun(1, 8);
                x.set(0, 2);
                x.set(1, 1);
                x.print(3);
                x.slip(1, 0, 1);
                x.print(4);
                s.due("rows 8 9 10 11 13 15 17", "1 8 7 3 4 3 1 5 2 12 0 6", Told.counts(x));
                x.strike(5);
                s.due("13 is struck", "1 8 7 2 4 3 1 6 2 14 1 6", Told.counts(x));
                s.due("a new object", "2 0 0 0 -1 0 0 0 0 0 0 0", Told.counts(new PowerTables()));
                registersThatAreWrongNow();
            });
        s.holds("Returns a number.", () -> s.alwaysChangesNothing("count", x -> x.count(6)));
        s.holds("Returns the number.", this::countsOfRows);
        s.holds("Throws `IllegalArgumentException` if what is not 0 to 11", () -> {
            for (int what : States.outside(0, 11)) {
                s.alwaysRefuses(ILLEGAL, "what " + what, x -> x.count(what));
            }
        });
    }

    private void countsOfRows() {
        s.due("the first wrong row is the row 0", 0, States.withErrors(1, 1).count(4));
        s.due("the first wrong row is the last one", 2, States.withErrors(0, 0, 1).count(4));
        s.due("no row is wrong", -1, States.withErrors(0, 0, 0).count(4));
        s.due("all rows are wrong", 3, States.withErrors(1, -1, 2).count(3));
        PowerTables x = States.begun(0, 0);
        x.print(39);
        States.printWrong(x, 1);
        s.due("the row 39 is wrong", "40 1 39", x.count(2) + " " + x.count(3) + " " + x.count(4));
        s.due("the last of 8 groups is wrong", "8 1", x.count(5) + " " + x.count(6));
        PowerTables blurred = States.begun(1, 11);
        blurred.set(1, 1);
        blurred.print(1);
        s.due("a digit of the row 0 is blurred", 1, blurred.count(7));
        blurred.begin(1, 11);
        s.due("none of a new table", 0, blurred.count(7));
        blurred.print(1);
        blurred.strike(0);
        s.due("both digits of the row 0, as it is now", 2, blurred.count(7));
    }

    /** Also when no row is left for which they could be right. */
    private void registersThatAreWrongNow() {
        for (int rows : new int[] {1, 39, 40}) {
            PowerTables x = States.begun(5, 2);
            x.print(rows);
            s.due("none is wrong behind " + rows + " rows", 0, x.count(8));
            for (int wrong = 1; wrong <= 6; wrong++) {
                x.slip(6 - wrong, 0, -1);
                s.due(wrong + " are wrong behind " + rows + " rows", wrong, x.count(8));
            }
            x.slip(3, 0, 1);
            s.due("one is right by chance", 5, x.count(8));
        }
    }

    private void setting() {
        s.section("Promise 20: setting");
        s.holds("Returns a setting.", () -> s.alwaysChangesNothing("setting", x -> x.setting(0)));
        s.holds("- `setting`: 0 or 1", () -> s.due("both", "3 4", Told.settings(States.busy())));
        s.holds("Returns its value.", () -> {
            PowerTables x = new PowerTables();
            s.due("at first", "5 50", Told.settings(x));
            x.set(0, 20);
            x.set(1, 999);
            s.due("the greatest", "20 999", Told.settings(x));
            x.begin(1, 1);
            x.set(0, 1);
            s.due("the least of setting 0", "1 999", Told.settings(x));
            x.undo();
            x.undo();
            x.undo();
            s.due("undone", "20 50", Told.settings(x));
        });
        s.holds("Throws `IndexOutOfBoundsException` if there is no such setting", () -> {
            for (int setting : States.outside(0, 1)) {
                s.alwaysRefuses(INDEX, "setting " + setting, x -> x.setting(setting));
            }
        });
    }
}
