import java.math.BigInteger;
import java.util.ArrayList;
import java.util.Arrays;
import java.util.List;
import java.util.function.Function;
import java.util.function.Supplier;

/** The sentences of the promises 21 to 26. */
final class GuessesSentences {
    private static final Class<IllegalArgumentException> ILLEGAL = IllegalArgumentException.class;

    private final Sentences s;

    GuessesSentences(Sentences sentences) {
        s = sentences;
    }

    void check() {
        guess();
        guessReturns();
        ifPrinted();
        ifPrintedThrows();
        bestGroup();
        mostWorn();
        rightness();
        digest();
    }

    // ---- guess

    private void guess() {
        s.section("Promise 21: guess");
        s.holds("Guesses which register slipped once, by the errors of the rows from the first wrong one up to the last "
            + "row.", () -> {
                for (int register = 0; register <= 5; register++) {
                    PowerTables x = States.begun(2, 3);
                    x.print(4);
                    x.slip(register, 2, -7);
                    x.print(30);
                    s.due("register " + register, register + " -700 4", Told.guess(x));
                    x.strike(33);
                    s.due("the last row is struck", "-1 0 -1", Told.guess(x));
                }
                guesses("-1 0 -1", 0, 0, 5, 5, 0);
                guesses("0 5 3", 0, 0, 0, 5, 5);
                guesses("1 5 1", 0, 0, 5, 10, 15);
                s.alwaysChangesNothing("guess", x -> x.guess(2));
            });
        s.holds("- `what`: 0: the register: the least j, 0 to 5, for which these rows are at least j + 2, and the j-th "
            + "differences of their errors are all the same and not 0; 1: by how much it slipped: this difference; 2: "
            + "the row ahead of which it slipped: the first wrong row less j (it can be below 0)", () -> {
                guessOfFewRows();
                guesses("1 1 -1", 1, 2, 3);
                guesses("1 -1 -1", 3, 2, 1);
                guesses("2 1 -2", 1, 2, 4, 7);
                guesses("2 1 3", 0, 0, 0, 0, 0, 1, 2, 4, 7);
                guesses("5 1 -5", 1, 6, 21, 56, 126, 252, 462);
                guesses("-1 0 -1", 1, 6, 21, 56, 126, 252, 463);
                // The same 6th differences alone: no register is that high.
                guesses("-1 0 -1", 1, 7, 28, 84, 210, 462, 924, 1716, 3003);
            });
    }

    private void guesses(String want, long... errors) {
        s.due("errors " + Arrays.toString(errors), want, Told.guess(States.withErrors(errors)));
    }

    /** For each register, one row too few and just enough. */
    private void guessOfFewRows() {
        guesses("-1 0 -1", 4);
        guesses("0 4 0", 4, 4);
        for (int register = 0; register <= 5; register++) {
            PowerTables x = States.begun(1, 0);
            x.print(6);
            x.slip(register, 0, 3);
            x.print(2 * register + 1);
            s.due("register " + register + ", a row too few", "-1 0 -1", Told.guess(x));
            x.print(1);
            s.due("register " + register + ", just enough rows", register + " 3 6", Told.guess(x));
        }
    }

    private void guessReturns() {
        s.holds("Returns the number; NONE for 0 and 2, 0 for 1, if no row is wrong, or there is no such j.", () -> {
            s.due("without rows", "-1 0 -1", Told.guess(new PowerTables()));
            guesses("-1 0 -1", 0);
            guesses("-1 0 -1", 0, 0, 0, 0, 0, 0, 0, 0);
            guesses("-1 0 -1", 0, 0, 7);
            guesses("-1 0 -1", 5, 6);
            guesses("-1 0 -1", 5, 5, 5, 6);
            PowerTables x = States.begun(2, 7);
            x.slip(1, 0, 3);
            x.print(1);
            s.due("registers are wrong, and no row", "-1 0 -1", Told.guess(x));
        });
        s.holds("Throws `IllegalArgumentException` if what is not 0 to 2", () -> {
            for (int what : States.outside(0, 2)) {
                s.alwaysRefuses(ILLEGAL, "what " + what, x -> x.guess(what));
            }
        });
    }

    // ---- ifPrinted

    private void ifPrinted() {
        s.section("Promise 22: ifPrinted");
        s.holds("Tells what printing would bring.", () -> {
            for (int rows : States.inside(1, 31)) {
                PowerTables x = States.busy();
                int wrongAhead = x.count(3);
                String would = Told.ifPrinted(x, rows);
                int blurred = x.print(rows);
                s.due("printed: " + rows, would,
                    x.row(8 + rows, 1) + " " + blurred + " " + (x.count(3) - wrongAhead));
            }
            s.alwaysChangesNothing("ifPrinted", x -> x.ifPrinted(40, 1));
        });
        s.holds("- `rows`: 1 to 40", () -> {
            PowerTables x = States.begun(1, 1);
            for (int rows : States.inside(1, 40)) {
                s.due("rows " + rows, rows, x.ifPrinted(rows, 0));
            }
        });
        s.holds("- `what`: 0: the number of the last of these rows; 1: how many of their digits would be blurred; 2: how "
            + "many of them would be wrong (the limit of 40 rows does not matter)", () -> {
                PowerTables x = States.begun(1, 8);
                x.set(1, 1);
                s.due("8", "8 0 0", Told.ifPrinted(x, 1));
                s.due("8 9 10", "10 0 0", Told.ifPrinted(x, 3));
                s.due("8 9 10 11", "11 2 0", Told.ifPrinted(x, 4));
                x.slip(1, 0, 1);
                s.due("8 10 12 14", "14 2 3", Told.ifPrinted(x, 4));
                x.correct();
                x.slip(0, 0, 1);
                s.due("9 10 11 12", "12 3 4", Told.ifPrinted(x, 4));
                aboveTheLimit();
            });
        s.holds("Returns the number.", () -> {
            PowerTables x = States.begun(0, 0);
            States.load(x, 5, -1);
            x.print(40);
            s.due("the row 79: 22537515 times the register 5", -2253751499977462484L, x.ifPrinted(40, 0));
            x.set(1, 1);
            s.due("its digits and those of the rows ahead", digitsAhead(x), x.ifPrinted(40, 1));
        });
    }

    private void aboveTheLimit() {
        PowerTables x = States.begun(1, 0);
        x.print(40);
        s.due("one row behind 40", "40 0 0", Told.ifPrinted(x, 1));
        s.due("40 rows behind 40", "79 0 0", Told.ifPrinted(x, 40));
        x.slip(1, 0, 1);
        s.due("one row behind a slip", "40 0 0", Told.ifPrinted(x, 1));
        s.due("two rows behind a slip", "42 0 1", Told.ifPrinted(x, 2));
        s.due("only the first of 40 would be right", 39, x.ifPrinted(40, 2));
        s.due("still 40 rows", 40, x.count(2));
    }

    /** All types are worn more than they can be, so that each digit would be blurred. */
    private static int digitsAhead(PowerTables x) {
        BigInteger[] registers = new BigInteger[6];
        for (int i = 0; i < 6; i++) {
            registers[i] = BigInteger.valueOf(x.register(i, false));
        }
        int digits = 0;
        for (int row = 0; row < 40; row++) {
            digits += registers[0].abs().toString().length();
            for (int i = 0; i < 5; i++) {
                registers[i] = registers[i].add(registers[i + 1]);
            }
        }
        return digits;
    }

    private void ifPrintedThrows() {
        s.holds("Throws `IllegalArgumentException` if rows or what is out of range", () -> {
            for (int rows : States.outside(1, 40)) {
                s.alwaysRefuses(ILLEGAL, "rows " + rows, x -> x.ifPrinted(rows, 0));
            }
            for (int what : States.outside(0, 2)) {
                s.alwaysRefuses(ILLEGAL, "what " + what, x -> x.ifPrinted(1, what));
            }
            s.alwaysRefuses(ILLEGAL, "both", x -> x.ifPrinted(0, 3));
        });
    }

    // ---- bestGroup, mostWorn, rightness

    private void bestGroupIs(int want, int rows, int... wrong) {
        PowerTables x = new PowerTables();
        x.begin(0, 0);
        for (int row = 0; row < rows; row++) {
            for (int i = 0; i < wrong.length; i++) {
                if (wrong[i] == row) {
                    x.slip(0, 0, i % 2 == 0 ? 1 : -1);
                }
            }
            x.print(1);
            x.correct();
        }
        s.due(rows + " rows, wrong " + Arrays.toString(wrong), want, x.bestGroup());
    }

    private void bestGroup() {
        s.section("Promise 23: bestGroup");
        s.holds("Finds the largest groups that still find all.", () -> {
            PowerTables x = States.withErrors(0, 0, 4, 0);
            x.set(0, x.bestGroup());
            s.due("the one wrong row is in a group found wrong", "4 1 1", x.setting(0) + " " + x.count(5) + " " + x.count(6));
            x.set(0, 5);
            s.due("setting 0 does not matter", 4, x.bestGroup());
            s.alwaysChangesNothing("bestGroup", PowerTables::bestGroup);
        });
        s.holds("Returns the greatest setting 0, 1 to 20, with which each wrong row would lie in a group that is printed "
            + "whole and found wrong;", () -> {
                bestGroupIs(1, 1, 0);
                bestGroupIs(2, 2, 1);
                bestGroupIs(19, 19, 18);
                bestGroupIs(20, 20, 19);
                bestGroupIs(20, 20, 0);
                bestGroupIs(20, 21, 19);
                bestGroupIs(7, 21, 20);
                bestGroupIs(13, 39, 38);
                bestGroupIs(20, 40, 39);
                bestGroupIs(1, 37, 36);
                bestGroupIs(19, 39, 20);
                // Errors that cancel each other in a group: only groups that part them find them.
                bestGroupIs(1, 2, 0, 1);
                bestGroupIs(3, 6, 2, 3);
                bestGroupIs(20, 40, 19, 20);
                bestGroupIs(19, 40, 18, 19);
                // Of three such errors one is left in a group of all.
                bestGroupIs(20, 20, 3, 4, 5);
            });
        s.holds("0 if there is none;", () -> {
            // Groups of one row find each wrong row, so that there is always one.
            bestGroupIs(1, 5, 0, 1, 2, 3);
            bestGroupIs(1, 3, 1, 2);
        });
        s.holds("20 if no row is wrong.", () -> {
            s.due("a new object", 20, new PowerTables().bestGroup());
            for (int rows : States.inside(1, 40)) {
                bestGroupIs(20, rows);
            }
            PowerTables x = States.withErrors(1);
            s.due("a wrong row", 1, x.bestGroup());
            x.strike(0);
            s.due("it is struck", 20, x.bestGroup());
        });
    }

    private void mostWorn() {
        s.section("Promise 24: mostWorn");
        s.holds("Finds the type that would be blurred first.", () -> {
            PowerTables x = States.begun(1, 0);
            x.print(10);
            for (int digit = 9; digit >= 0; digit--) {
                x.strike(digit);
                s.due("all from " + digit + " on are worn twice", digit, x.mostWorn());
            }
            s.alwaysChangesNothing("mostWorn", PowerTables::mostWorn);
        });
        s.holds("Returns the digit whose type has the greatest wear, of several the lowest.", () -> {
            PowerTables x = new PowerTables();
            s.due("all are new", 0, x.mostWorn());
            x.begin(1, 8);
            x.print(2);
            s.due("8 and 9", 8, x.mostWorn());
            x.strike(1);
            s.due("9 is worn more", 9, x.mostWorn());
            x.renew(9);
            s.due("9 is new", 8, x.mostWorn());
            x.renew(8);
            s.due("all are new again", 0, x.mostWorn());
            PowerTables nought = States.begun(1, 0);
            nought.print(1);
            s.due("0 alone", 0, nought.mostWorn());
            nought.print(1);
            s.due("0 and 1", 0, nought.mostWorn());
        });
    }

    private void rightness() {
        s.section("Promise 25: rightness");
        s.holds("Returns how right the table is.", () -> s.alwaysChangesNothing("rightness", PowerTables::rightness));
        s.holds("Returns the rows that are not wrong and have no blurred digits, as a double, divided by the rows; 1.0 "
            + "without rows.", () -> {
                s.due("without rows", 1.0, new PowerTables().rightness());
                s.due("one right row", 1.0, States.withErrors(0).rightness());
                s.due("one wrong row", 0.0, States.withErrors(1).rightness());
                s.due("one of three is wrong", 2.0 / 3, States.withErrors(0, 0, -1).rightness());
                for (int right = 0; right <= 40; right++) {
                    s.due(right + " rows are right", right / 40.0, rightRows(right).rightness());
                }
                for (int clear : States.inside(1, 40)) {
                    PowerTables x = States.begun(0, 0);
                    x.set(1, clear);
                    x.print(40);
                    s.due(clear + " rows are clear", clear / 40.0, x.rightness());
                }
                PowerTables both = States.withErrors(0, 1);
                both.set(1, 1);
                States.printWrong(both, 1);
                s.due("the last row is wrong and blurred", 1.0 / 3, both.rightness());
                both.renew(1);
                both.strike(2);
                s.due("it is right and clear", 2.0 / 3, both.rightness());
                both.strike(2);
                s.due("it is right and blurred", 1.0 / 3, both.rightness());
            });
    }

    /** Of 40 rows the first ones are right. */
    private static PowerTables rightRows(int right) {
        PowerTables x = States.begun(1, 1);
        x.set(1, 999);
        if (right > 0) {
            x.print(right);
        }
        x.slip(0, 1, 1);
        if (right < 40) {
            x.print(40 - right);
        }
        return x;
    }

    // ---- digest

    private void digest() {
        s.section("Promise 26: digest");
        s.holds("Computes a hash of the whole state.", () -> {
            for (Supplier<PowerTables> make : States.ALL) {
                changesTheDigest("begin", make, x -> x.begin(5, 98));
                changesTheDigest("slip", make, x -> x.slip(5, 0, 1));
                changesTheDigest("set 0", make, x -> x.set(0, 7));
                changesTheDigest("set 1", make, x -> x.set(1, 7));
                changesTheDigest("clearBuffer and append", make, x -> x.clearBuffer() + x.append('~'));
            }
            changesTheDigest("print", States::light, x -> x.print(1));
            changesTheDigest("strike", States::busy, x -> x.strike(1));
            changesTheDigest("renew", States::busy, x -> x.renew(2));
            changesTheDigest("a state is saved", States::light, PowerTables::correct);
            s.alwaysChangesNothing("digest", PowerTables::digest);
        });
        s.holds("The hash starts at 2957. For each value v of the following list, in order, the hash becomes 31 * hash + "
            + "v, in long arithmetic with overflow.", () -> {
                s.due("a new object", hashOf("2 0 0 0 -1 0 0 0 0 0 0 0 5 50 0 0 1 1 2 2 0 0 0 0 0 0 "
                    + "0 0 0 0 0 0 0 0 0 0 -1 0 -1 4 0 0 20 0 4607182418800017408 0"), new PowerTables().digest());
                PowerTables x = States.begun(1, 3);
                x.set(0, 1);
                x.slip(0, 0, 1);
                x.print(1);
                x.append('p');
                s.due("a wrong row", hashOf("1 3 1 1 0 1 1 0 1 1 0 4 1 50 5 4 1 1 0 0 0 0 0 0 0 0 3 4 3 1 0 4 3 1 1 "
                    + "4 0 0 0 0 0 0 0 0 0 1 0 0 0 0 0 -1 0 -1 7 0 3 1 4 0 1 112"), x.digest());
            });
        digestValues();
    }

    private static long hashOf(String values) {
        List<Long> numbers = new ArrayList<>();
        for (String value : values.split(" ")) {
            numbers.add(Long.parseLong(value));
        }
        return Told.hashOf(numbers);
    }

    private void changesTheDigest(String what, Supplier<PowerTables> make, Function<PowerTables, Object> call) {
        PowerTables x = make.get();
        long before = x.digest();
        call.apply(x);
        s.due(what + " changes it", true, before != x.digest());
    }

    private void digestValues() {
        s.holds("The values are: count(0) to count(11); the settings 0 and 1; for each register what it is, and what it "
            + "would be right; for each row its numbers 0 to 4; for each group that is printed whole its numbers 0 to 3; "
            + "for the row 0, if there is one, its differences of the orders 0 to 5; the wear of each digit; guess with 0 "
            + "to 2; ifPrinted of 3 with 0 to 2; bestGroup; mostWorn; the bits of rightness (as Double.doubleToLongBits); "
            + "the length of the buffer and each of its character codes.", () -> {
                for (int rows : new int[] {1, 4, 5, 6, 9, 10, 37, 38, 39, 40}) {
                    PowerTables x = States.begun(5, 2);
                    x.print(rows);
                    s.due(rows + " rows", Told.hashOf(x), x.digest());
                }
                PowerTables guessed = States.withErrors(0, 0, 4, 4, -4, 4);
                guessed.strike(4);
                guessed.strike(5);
                s.due("a register is guessed", "0 4 2", Told.guess(States.withErrors(0, 0, 4, 4)));
                s.due("wrong rows", Told.hashOf(guessed), guessed.digest());
                for (int length : States.inside(0, 60)) {
                    PowerTables x = States.written("~".repeat(length));
                    int[] codes = new int[length];
                    Arrays.fill(codes, '~');
                    s.due("a buffer of " + length, Told.hashOf(x, codes), x.digest());
                }
                for (int rows : new int[] {1, 2, 3, 7, 39, 40}) {
                    sharesOf(rows);
                }
            });
        s.holds("Returns the hash.", () -> {
            PowerTables x = States.busy();
            int[] codes = "p1;s10+2;q".chars().toArray();
            s.due("a long number", Told.hashOf(x, codes), x.digest());
            s.due("the same again", x.digest(), x.digest());
            s.due("of an object made alike", States.full().digest(), States.full().digest());
        });
    }

    /** Of so many rows from none on are clear: the bits of each share. */
    private void sharesOf(int rows) {
        for (int clear = 0; clear <= rows; clear++) {
            PowerTables x = States.begun(0, 0);
            x.set(1, clear == 0 ? 1 : clear);
            if (clear == 0) {
                x.slip(0, 1, 1);
            }
            x.print(rows);
            s.due("rightness", (double) clear / rows, x.rightness());
            s.due(clear + " clear rows of " + rows, Told.hashOf(x), x.digest());
        }
    }
}
