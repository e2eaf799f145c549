import java.math.BigInteger;
import java.util.ArrayList;
import java.util.List;
import java.util.regex.Matcher;
import java.util.regex.Pattern;

/** The document once more, as plainly as can be and sharing nothing with the class: what is due in any run. */
final class ModelTables {
    private static final Pattern ORDER = Pattern.compile("p(?:40|[1-3][0-9]|[1-9])|s[0-5][0-9][+-][1-9]|c|n[0-9]");
    private static final Pattern ORDERS = Pattern.compile("(?:" + ORDER + ")(?:;(?:" + ORDER + "))*");

    /** All that undo restores. */
    private static final class State {
        int power = 2;
        int first = 0;
        int groupRows = 5;
        int wearLimit = 50;
        int digits = 0;
        int struck = 0;
        List<BigInteger> registers = new ArrayList<>();
        List<BigInteger> printed = new ArrayList<>();
        List<Integer> blurred = new ArrayList<>();
        int[] wears = new int[10];

        State copy() {
            State copy = new State();
            copy.power = power;
            copy.first = first;
            copy.groupRows = groupRows;
            copy.wearLimit = wearLimit;
            copy.digits = digits;
            copy.struck = struck;
            copy.registers = new ArrayList<>(registers);
            copy.printed = new ArrayList<>(printed);
            copy.blurred = new ArrayList<>(blurred);
            copy.wears = wears.clone();
            return copy;
        }

        BigInteger right(int row) {
            return BigInteger.valueOf(first + row).pow(power);
        }

        BigInteger rightDifference(int order, int row) {
            return order == 0
                ? right(row)
                : rightDifference(order - 1, row + 1).subtract(rightDifference(order - 1, row));
        }

        BigInteger printedDifference(int order, int row) {
            return order == 0
                ? printed.get(row)
                : printedDifference(order - 1, row + 1).subtract(printedDifference(order - 1, row));
        }

        BigInteger errorDifference(int order, int row) {
            return order == 0
                ? printed.get(row).subtract(right(row))
                : errorDifference(order - 1, row + 1).subtract(errorDifference(order - 1, row));
        }

        List<BigInteger> rightRegisters() {
            List<BigInteger> right = new ArrayList<>();
            for (int order = 0; order < 6; order++) {
                right.add(rightDifference(order, printed.size()));
            }
            return right;
        }

        int strikeDigits(BigInteger number) {
            int blurs = 0;
            for (char digit : number.abs().toString().toCharArray()) {
                digits++;
                if (++wears[digit - '0'] > wearLimit) {
                    blurs++;
                }
            }
            return blurs;
        }

        int printRow() {
            List<BigInteger> ahead = new ArrayList<>(registers);
            printed.add(ahead.get(0));
            blurred.add(strikeDigits(ahead.get(0)));
            for (int i = 0; i < 5; i++) {
                registers.set(i, ahead.get(i).add(ahead.get(i + 1)));
            }
            return blurred.get(blurred.size() - 1);
        }

        boolean isWrong(int row) {
            return !printed.get(row).equals(right(row));
        }

        boolean isWhole(int group, int size) {
            return (group + 1L) * size <= printed.size();
        }

        boolean isFoundWrong(int group, int size) {
            return isWhole(group, size) && !groupSum(group, size, false).equals(groupSum(group, size, true));
        }

        BigInteger groupSum(int group, int size, boolean ofRight) {
            BigInteger sum = BigInteger.ZERO;
            for (int row = group * size; row < (group + 1) * size; row++) {
                sum = sum.add(ofRight ? right(row) : printed.get(row));
            }
            return sum;
        }
    }

    private State now = new State();
    private final List<State> saved = new ArrayList<>();
    private String buffer = "";

    ModelTables() {
        now.registers = now.rightRegisters();
    }

    private void save() {
        saved.add(now.copy());
        if (saved.size() > 6) {
            saved.remove(0);
        }
    }

    private static void index(boolean holds) {
        if (!holds) {
            throw new IndexOutOfBoundsException();
        }
    }

    private static void argument(boolean holds) {
        if (!holds) {
            throw new IllegalArgumentException();
        }
    }

    private static void state(boolean holds) {
        if (!holds) {
            throw new IllegalStateException();
        }
    }

    private static boolean in(int low, int value, int high) {
        return low <= value && value <= high;
    }

    int begin(int power, int first) {
        argument(in(0, power, 5) && in(0, first, 99));
        save();
        int rows = now.printed.size();
        now.power = power;
        now.first = first;
        now.printed.clear();
        now.blurred.clear();
        now.registers = now.rightRegisters();
        return rows;
    }

    int print(int rows) {
        argument(in(1, rows, 40));
        state(now.printed.size() + rows <= 40);
        save();
        int blurs = 0;
        for (int i = 0; i < rows; i++) {
            blurs += now.printRow();
        }
        return blurs;
    }

    long slip(int register, int column, int by) {
        index(in(0, register, 5));
        argument(in(0, column, 9) && in(-9, by, 9));
        BigInteger amount = BigInteger.TEN.pow(column).multiply(BigInteger.valueOf(by));
        BigInteger sum = now.registers.get(register).add(amount);
        state(sum.abs().compareTo(BigInteger.valueOf(99999999999L)) <= 0);
        save();
        now.registers.set(register, sum);
        return amount.longValueExact();
    }

    int correct() {
        int wrong = count(8);
        save();
        now.registers = now.rightRegisters();
        return wrong;
    }

    int strike(int row) {
        index(in(0, row, now.printed.size() - 1));
        save();
        now.printed.set(row, now.right(row));
        now.blurred.set(row, now.strikeDigits(now.right(row)));
        now.struck++;
        return now.blurred.get(row);
    }

    int renew(int digit) {
        index(in(0, digit, 9));
        save();
        int wear = now.wears[digit];
        now.wears[digit] = 0;
        return wear;
    }

    int set(int setting, int value) {
        index(in(0, setting, 1));
        argument(in(1, value, setting == 0 ? 20 : 999));
        save();
        int previous = setting(setting);
        if (setting == 0) {
            now.groupRows = value;
        } else {
            now.wearLimit = value;
        }
        return previous;
    }

    int append(int code) {
        argument(in(33, code, 126));
        state(buffer.length() < 60);
        buffer += (char) code;
        return buffer.length();
    }

    int clearBuffer() {
        int length = buffer.length();
        buffer = "";
        return length;
    }

    int firstError() {
        for (int i = 0; i < buffer.length(); i++) {
            Matcher matcher = ORDERS.matcher(buffer.substring(0, i + 1));
            // A matcher that hit the end could still match with more characters.
            if (!matcher.matches() && !matcher.hitEnd()) {
                return i;
            }
        }
        return buffer.length();
    }

    int obey() {
        argument(ORDERS.matcher(buffer).matches());
        List<State> savedAhead = new ArrayList<>(saved);
        State ahead = now.copy();
        int done = 0;
        for (String order : buffer.split(";")) {
            if (!obeyed(order)) {
                break;
            }
            done++;
        }
        saved.clear();
        saved.addAll(savedAhead);
        State behind = now;
        now = ahead;
        save();
        now = behind;
        buffer = "";
        return done;
    }

    private boolean obeyed(String order) {
        try {
            switch (order.charAt(0)) {
                case 'p' -> print(Integer.parseInt(order.substring(1)));
                case 's' -> slip(order.charAt(1) - '0', order.charAt(2) - '0', Integer.parseInt(order.substring(3)));
                case 'c' -> correct();
                default -> renew(order.charAt(1) - '0');
            }
            return true;
        } catch (IllegalStateException e) {
            return false;
        }
    }

    int undo() {
        state(!saved.isEmpty());
        now = saved.remove(saved.size() - 1);
        return saved.size();
    }

    long row(int row, int what) {
        index(in(0, row, now.printed.size() - 1));
        argument(in(0, what, 4));
        return switch (what) {
            case 0 -> now.first + row;
            case 1 -> now.printed.get(row).longValueExact();
            case 2 -> now.right(row).longValueExact();
            case 3 -> now.printed.get(row).subtract(now.right(row)).longValueExact();
            default -> now.blurred.get(row);
        };
    }

    long register(int register, boolean isRight) {
        index(in(0, register, 5));
        return (isRight ? now.rightRegisters() : now.registers).get(register).longValueExact();
    }

    long group(int group, int what) {
        argument(group >= 0 && in(0, what, 3));
        if (!now.isWhole(group, now.groupRows)) {
            return 0;
        }
        int wrong = 0;
        for (int row = group * now.groupRows; row < (group + 1) * now.groupRows; row++) {
            wrong += now.isWrong(row) ? 1 : 0;
        }
        return switch (what) {
            case 0 -> now.groupSum(group, now.groupRows, false).longValueExact();
            case 1 -> now.groupSum(group, now.groupRows, true).longValueExact();
            case 2 -> now.isFoundWrong(group, now.groupRows) ? 1 : 0;
            default -> wrong;
        };
    }

    long difference(int order, int row) {
        argument(in(0, order, 5));
        index(in(0, row, now.printed.size() - 1));
        return row + order < now.printed.size() ? now.printedDifference(order, row).longValueExact() : 0;
    }

    int wear(int digit) {
        index(in(0, digit, 9));
        return now.wears[digit];
    }

    int count(int what) {
        argument(in(0, what, 11));
        int rows = now.printed.size();
        int wrong = 0;
        int firstWrong = -1;
        int blurs = 0;
        for (int row = rows - 1; row >= 0; row--) {
            wrong += now.isWrong(row) ? 1 : 0;
            firstWrong = now.isWrong(row) ? row : firstWrong;
            blurs += now.blurred.get(row);
        }
        int whole = 0;
        int found = 0;
        for (int group = 0; group < rows; group++) {
            whole += now.isWhole(group, now.groupRows) ? 1 : 0;
            found += now.isFoundWrong(group, now.groupRows) ? 1 : 0;
        }
        int wrongRegisters = 0;
        for (int i = 0; i < 6; i++) {
            wrongRegisters += now.registers.get(i).equals(now.rightDifference(i, rows)) ? 0 : 1;
        }
        int[] numbers = {
            now.power, now.first, rows, wrong, firstWrong, whole, found, blurs, wrongRegisters, now.digits, now.struck,
            saved.size()
        };
        return numbers[what];
    }

    int setting(int setting) {
        index(in(0, setting, 1));
        return setting == 0 ? now.groupRows : now.wearLimit;
    }

    long guess(int what) {
        argument(in(0, what, 2));
        int firstWrong = count(4);
        for (int order = 0; firstWrong >= 0 && order <= 5; order++) {
            BigInteger amount = slippedBy(order, firstWrong);
            if (amount.signum() != 0) {
                return what == 0 ? order : what == 1 ? amount.longValueExact() : firstWrong - order;
            }
        }
        return what == 1 ? 0 : -1;
    }

    /** 0 if the rows are too few, or their differences of this order are not all the same. */
    private BigInteger slippedBy(int order, int firstWrong) {
        int rows = now.printed.size();
        if (rows - firstWrong < order + 2) {
            return BigInteger.ZERO;
        }
        BigInteger amount = now.errorDifference(order, firstWrong);
        for (int row = firstWrong; row + order < rows; row++) {
            if (!now.errorDifference(order, row).equals(amount)) {
                return BigInteger.ZERO;
            }
        }
        return amount;
    }

    long ifPrinted(int rows, int what) {
        argument(in(1, rows, 40) && in(0, what, 2));
        State tried = now.copy();
        int ahead = tried.printed.size();
        long blurs = 0;
        long wrong = 0;
        for (int i = 0; i < rows; i++) {
            blurs += tried.printRow();
            wrong += tried.isWrong(ahead + i) ? 1 : 0;
        }
        return what == 0 ? tried.printed.get(ahead + rows - 1).longValueExact() : what == 1 ? blurs : wrong;
    }

    int bestGroup() {
        int best = 0;
        for (int size = 1; size <= 20; size++) {
            boolean findsAll = true;
            for (int row = 0; row < now.printed.size(); row++) {
                findsAll &= !now.isWrong(row) || now.isFoundWrong(row / size, size);
            }
            best = findsAll ? size : best;
        }
        return best;
    }

    int mostWorn() {
        int most = 9;
        for (int digit = 9; digit >= 0; digit--) {
            most = now.wears[digit] >= now.wears[most] ? digit : most;
        }
        return most;
    }

    double rightness() {
        double good = 0;
        for (int row = 0; row < now.printed.size(); row++) {
            good += !now.isWrong(row) && now.blurred.get(row) == 0 ? 1 : 0;
        }
        return now.printed.isEmpty() ? 1.0 : good / now.printed.size();
    }

    long digest() {
        List<Long> values = new ArrayList<>();
        for (int what = 0; what < 12; what++) {
            values.add((long) count(what));
        }
        values.add((long) setting(0));
        values.add((long) setting(1));
        for (int i = 0; i < 6; i++) {
            values.add(register(i, false));
            values.add(register(i, true));
        }
        for (int row = 0; row < count(2); row++) {
            for (int what = 0; what < 5; what++) {
                values.add(row(row, what));
            }
        }
        for (int group = 0; group < count(5); group++) {
            for (int what = 0; what < 4; what++) {
                values.add(group(group, what));
            }
        }
        for (int order = 0; order < 6 && count(2) > 0; order++) {
            values.add(difference(order, 0));
        }
        for (int digit = 0; digit < 10; digit++) {
            values.add((long) wear(digit));
        }
        for (int what = 0; what < 3; what++) {
            values.add(guess(what));
        }
        for (int what = 0; what < 3; what++) {
            values.add(ifPrinted(3, what));
        }
        values.add((long) bestGroup());
        values.add((long) mostWorn());
        values.add(Double.doubleToLongBits(rightness()));
        values.add((long) buffer.length());
        for (char code : buffer.toCharArray()) {
            values.add((long) code);
        }
        long hash = 2957;
        for (long value : values) {
            hash = 31 * hash + value;
        }
        return hash;
    }
}
