import java.util.List;
import java.util.function.Supplier;
import java.util.stream.IntStream;

/** Objects in the states that tests begin with, and the numbers round a range. */
final class States {
    static final long MOST_IN_REGISTER = 99999999999L;

    /** A new one, one that has room for more, one with as many saved states as there can be, and one with all rows. */
    static final List<Supplier<PowerTables>> ALL =
        List.of(PowerTables::new, States::light, States::busy, States::full);

    private States() {
    }

    static PowerTables begun(int power, int first) {
        PowerTables x = new PowerTables();
        x.begin(power, first);
        return x;
    }

    static void write(PowerTables x, String text) {
        for (int i = 0; i < text.length(); i++) {
            x.append(text.charAt(i));
        }
    }

    static PowerTables written(String text) {
        PowerTables x = new PowerTables();
        write(x, text);
        return x;
    }

    /** Four rows, three saved states, a wrong register, and orders that can be obeyed. */
    static PowerTables light() {
        PowerTables x = begun(2, 7);
        x.slip(1, 0, 3);
        x.print(4);
        write(x, "p1;s10+2;c;n4");
        return x;
    }

    /** Nine rows, wrong and struck and blurred ones; six saved states, two are dropped; an error in the buffer. */
    static PowerTables busy() {
        PowerTables x = begun(3, 4);
        x.set(0, 3);
        x.set(1, 4);
        x.print(5);
        x.slip(1, 2, -7);
        x.print(4);
        x.renew(1);
        x.strike(7);
        write(x, "p1;s10+2;q");
        return x;
    }

    /** All 40 rows, and a buffer of 60 characters that are complete orders but for the last. */
    static PowerTables full() {
        PowerTables x = begun(5, 99);
        x.slip(5, 9, -9);
        x.print(40);
        write(x, "c;".repeat(30));
        return x;
    }

    /** Slips a register that is 0 up or down to the limit, by 20 slips. */
    static void load(PowerTables x, int register, int sign) {
        for (int i = 0; i < 11; i++) {
            x.slip(register, 9, 9 * sign);
        }
        for (int column = 8; column >= 0; column--) {
            x.slip(register, column, 9 * sign);
        }
    }

    /** Makes the register 0 more by a number of at most 10 digits. */
    static void slipBy(PowerTables x, long number) {
        int sign = number < 0 ? -1 : 1;
        long rest = Math.abs(number);
        for (int column = 0; column < 10 && rest > 0; column++) {
            x.slip(0, column, sign * (int) (rest % 10));
            rest /= 10;
        }
    }

    /** Prints a row with this error. */
    static void printWrong(PowerTables x, long error) {
        x.correct();
        slipBy(x, error);
        x.print(1);
    }

    /** Rows of ones, with these errors. */
    static PowerTables withErrors(long... errors) {
        PowerTables x = begun(0, 0);
        x.set(1, 999);
        for (long error : errors) {
            printWrong(x, error);
        }
        x.correct();
        return x;
    }

    /** Both ends of a range and what is next to them inside. */
    static int[] inside(int low, int high) {
        return IntStream.of(low, low + 1, high - 1, high).filter(value -> value >= low && value <= high)
            .distinct().toArray();
    }

    /** Next to a range, far from it, and what would lie in it if it were cut to a byte, a short or without its sign. */
    static int[] outside(int low, int high) {
        return IntStream.of(low - 1, high + 1, Integer.MIN_VALUE, Integer.MAX_VALUE, low + 256, low - 256, low + 65536,
            low - 65536, low + Integer.MIN_VALUE, high + Integer.MIN_VALUE, -low, -high)
            .filter(value -> value < low || value > high).distinct().toArray();
    }
}
