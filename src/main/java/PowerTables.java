/**
 * Tables of powers laid by an abacus printer: each row comes from registers of differences by adding.
 *
 * Whatever a call needs is made in the constructor and used again, so that no call makes an object.
 */
public final class PowerTables {
    public static final int NONE = -1;

    private static final int REGISTERS = 6;
    private static final int DIGITS = 10;
    private static final int COLUMNS = 10;
    private static final int SETTINGS = 2;
    private static final int MOST_POWER = 5;
    private static final int MOST_FIRST = 99;
    private static final int MOST_ROWS = 40;
    private static final int MOST_BY = 9;
    private static final int MOST_GROUP_ROWS = 20;
    private static final int MOST_WEAR_LIMIT = 999;
    private static final long MOST_IN_REGISTER = 99999999999L;

    private static final int ROW_NUMBERS = 5;
    private static final int GROUP_NUMBERS = 4;
    private static final int COUNTS = 12;
    private static final int GUESSES = 3;
    private static final int FORECASTS = 3;

    private static final long DIGEST_START = 2957;
    private static final int DIGEST_ROWS_AHEAD = 3;

    private static final int EXPONENT_OF_ONE = 1023;
    private static final int FRACTION_BITS = 52;

    private final Table table = new Table();
    private final SavedTables saved = new SavedTables();
    private final OrderText text = new OrderText();
    private final Differences differences = new Differences();
    private final Registers rightRegisters = new Registers();
    private final Registers triedRegisters = new Registers();
    private final Types triedTypes = new Types();

    public PowerTables() {
        table.power = 2;
        putRegistersRight(table.registers);
    }

    // ---- printing

    public int begin(int power, int first) throws IllegalArgumentException {
        if (power < 0 || power > MOST_POWER || first < 0 || first > MOST_FIRST) {
            throw new IllegalArgumentException("power or first is out of range");
        }
        saved.keep(table);
        int rowsAhead = table.rows;
        table.power = power;
        table.first = first;
        table.rows = 0;
        putRegistersRight(table.registers);
        return rowsAhead;
    }

    public int print(int rows) throws IllegalArgumentException, IllegalStateException {
        if (rows < 1 || rows > MOST_ROWS) {
            throw new IllegalArgumentException("rows is out of range");
        }
        if (!table.hasRoomFor(rows)) {
            throw new IllegalStateException("there would be more than 40 rows");
        }
        saved.keep(table);
        return table.addRows(rows);
    }

    public long slip(int register, int column, int by)
            throws IndexOutOfBoundsException, IllegalArgumentException, IllegalStateException {
        if (!isRegister(register)) {
            throw new IndexOutOfBoundsException("no such register");
        }
        if (column < 0 || column >= COLUMNS || by < -MOST_BY || by > MOST_BY) {
            throw new IllegalArgumentException("column or by is out of range");
        }
        long amount = by * tenToThe(column);
        if (!table.registers.canTake(register, amount)) {
            throw new IllegalStateException("the register would be above 99999999999");
        }
        saved.keep(table);
        table.registers.add(register, amount);
        return amount;
    }

    public int correct() {
        saved.keep(table);
        int wrong = wrongRegisters();
        putRegistersRight(table.registers);
        return wrong;
    }

    public int strike(int row) throws IndexOutOfBoundsException {
        if (!table.hasRow(row)) {
            throw new IndexOutOfBoundsException("no such row");
        }
        saved.keep(table);
        return table.strikeAnew(row);
    }

    public int renew(int digit) throws IndexOutOfBoundsException {
        if (!isDigit(digit)) {
            throw new IndexOutOfBoundsException("no such digit");
        }
        saved.keep(table);
        return table.types.makeNew(digit);
    }

    public int set(int setting, int value) throws IndexOutOfBoundsException, IllegalArgumentException {
        if (!isSetting(setting)) {
            throw new IndexOutOfBoundsException("no such setting");
        }
        int most = setting == 0 ? MOST_GROUP_ROWS : MOST_WEAR_LIMIT;
        if (value < 1 || value > most) {
            throw new IllegalArgumentException("value is out of range");
        }
        saved.keep(table);
        int previous = settingNow(setting);
        if (setting == 0) {
            table.groupRows = value;
        } else {
            table.types.wearLimit = value;
        }
        return previous;
    }

    // ---- texts

    public int append(int code) throws IllegalArgumentException, IllegalStateException {
        if (!OrderText.isCode(code)) {
            throw new IllegalArgumentException("code is not 33 to 126");
        }
        if (text.isFull()) {
            throw new IllegalStateException("the buffer is full");
        }
        text.add(code);
        return text.length;
    }

    public int clearBuffer() {
        int length = text.length;
        text.length = 0;
        return length;
    }

    public int firstError() {
        return text.errorIndex();
    }

    public int obey() throws IllegalArgumentException {
        if (!text.isComplete()) {
            throw new IllegalArgumentException("the buffer is not complete orders as a text");
        }
        saved.keep(table);
        int done = 0;
        boolean goesOn = true;
        for (int at = 0; at < text.length && goesOn; at++) {
            if (text.beginsOrder(at)) {
                goesOn = carryOut(at);
                done += goesOn ? 1 : 0;
            }
        }
        text.length = 0;
        return done;
    }

    public int undo() throws IllegalStateException {
        if (saved.size == 0) {
            throw new IllegalStateException("no state is saved");
        }
        saved.giveBack(table);
        return saved.size;
    }

    // ---- looks; nothing is changed

    public long row(int row, int what) throws IndexOutOfBoundsException, IllegalArgumentException {
        if (!table.hasRow(row)) {
            throw new IndexOutOfBoundsException("no such row");
        }
        if (what < 0 || what >= ROW_NUMBERS) {
            throw new IllegalArgumentException("what is not 0 to 4");
        }
        switch (what) {
            case 0:
                return table.first + row;
            case 1:
                return table.printed[row];
            case 2:
                return table.right[row];
            case 3:
                return table.error(row);
            default:
                return table.blurred[row];
        }
    }

    public long register(int register, boolean isRight) throws IndexOutOfBoundsException {
        if (!isRegister(register)) {
            throw new IndexOutOfBoundsException("no such register");
        }
        if (!isRight) {
            return table.registers.numbers[register];
        }
        putRegistersRight(rightRegisters);
        return rightRegisters.numbers[register];
    }

    public long group(int group, int what) throws IllegalArgumentException {
        if (group < 0 || what < 0 || what >= GROUP_NUMBERS) {
            throw new IllegalArgumentException("group is below 0, or what is not 0 to 3");
        }
        // Asked before the rows are reckoned, as a large group times its rows would not be an int.
        if (group >= table.wholeGroups(table.groupRows)) {
            return 0;
        }
        int from = group * table.groupRows;
        int to = from + table.groupRows;
        switch (what) {
            case 0:
                return table.printedSum(from, to);
            case 1:
                return table.rightSum(from, to);
            case 2:
                return table.isFoundWrong(from, to) ? 1 : 0;
            default:
                return table.wrongRows(from, to);
        }
    }

    public long difference(int order, int row) throws IllegalArgumentException, IndexOutOfBoundsException {
        if (order < 0 || order >= REGISTERS) {
            throw new IllegalArgumentException("order is out of range");
        }
        if (!table.hasRow(row)) {
            throw new IndexOutOfBoundsException("no such row");
        }
        if (!table.hasRow(row + order)) {
            return 0;
        }
        differences.clear();
        for (int i = row; i <= row + order; i++) {
            differences.put(table.printed[i]);
        }
        for (int i = 0; i < order; i++) {
            differences.raiseOrder();
        }
        return differences.leading();
    }

    public int wear(int digit) throws IndexOutOfBoundsException {
        if (!isDigit(digit)) {
            throw new IndexOutOfBoundsException("no such digit");
        }
        return table.types.wears[digit];
    }

    public int count(int what) throws IllegalArgumentException {
        if (what < 0 || what >= COUNTS) {
            throw new IllegalArgumentException("what is not 0 to 11");
        }
        switch (what) {
            case 0:
                return table.power;
            case 1:
                return table.first;
            case 2:
                return table.rows;
            case 3:
                return table.wrongRows(0, table.rows);
            case 4:
                return table.firstWrongRow();
            case 5:
                return table.wholeGroups(table.groupRows);
            case 6:
                return table.groupsFoundWrong();
            case 7:
                return table.blurredDigits();
            case 8:
                return wrongRegisters();
            case 9:
                return table.types.digitsPrinted;
            case 10:
                return table.rowsStruck;
            default:
                return saved.size;
        }
    }

    public int setting(int setting) throws IndexOutOfBoundsException {
        if (!isSetting(setting)) {
            throw new IndexOutOfBoundsException("no such setting");
        }
        return settingNow(setting);
    }

    // ---- what is guessed, what would be; nothing is changed

    public long guess(int what) throws IllegalArgumentException {
        if (what < 0 || what >= GUESSES) {
            throw new IllegalArgumentException("what is not 0 to 2");
        }
        int firstWrong = table.firstWrongRow();
        int slipped = firstWrong == NONE ? NONE : findSlippedRegister(firstWrong);
        if (what == 1) {
            return slipped == NONE ? 0 : differences.leading();
        }
        if (slipped == NONE) {
            return NONE;
        }
        return what == 0 ? slipped : firstWrong - slipped;
    }

    public long ifPrinted(int rows, int what) throws IllegalArgumentException {
        if (rows < 1 || rows > MOST_ROWS || what < 0 || what >= FORECASTS) {
            throw new IllegalArgumentException("rows or what is out of range");
        }
        triedRegisters.copyFrom(table.registers);
        triedTypes.copyFrom(table.types);
        long number = 0;
        int blurred = 0;
        int wrong = 0;
        for (int i = 0; i < rows; i++) {
            number = triedRegisters.nextNumber();
            blurred += triedTypes.printDigits(number);
            wrong += number != table.reckonRight(table.rows + i) ? 1 : 0;
        }
        if (what == 0) {
            return number;
        }
        return what == 1 ? blurred : wrong;
    }

    public int bestGroup() {
        for (int size = MOST_GROUP_ROWS; size >= 1; size--) {
            if (table.findsAllWith(size)) {
                return size;
            }
        }
        return 0;
    }

    public int mostWorn() {
        int most = 0;
        for (int digit = 1; digit < DIGITS; digit++) {
            if (table.types.wears[digit] > table.types.wears[most]) {
                most = digit;
            }
        }
        return most;
    }

    public double rightness() {
        if (table.rows == 0) {
            return 1.0;
        }
        return (double) table.faultlessRows() / table.rows;
    }

    public long digest() {
        long hash = DIGEST_START;
        hash = digestCounts(hash);
        hash = digestRegisters(hash);
        hash = digestRows(hash);
        hash = digestGroups(hash);
        hash = digestDifferences(hash);
        hash = digestTypes(hash);
        hash = digestForecasts(hash);
        return digestText(hash);
    }

    // ---- what the calls share

    private static boolean isRegister(int register) {
        return register >= 0 && register < REGISTERS;
    }

    private static boolean isDigit(int digit) {
        return digit >= 0 && digit < DIGITS;
    }

    private static boolean isSetting(int setting) {
        return setting >= 0 && setting < SETTINGS;
    }

    private static long tenToThe(int column) {
        long power = 1;
        for (int i = 0; i < column; i++) {
            power *= 10;
        }
        return power;
    }

    private int settingNow(int setting) {
        return setting == 0 ? table.groupRows : table.types.wearLimit;
    }

    private void putRegistersRight(Registers registers) {
        registers.putRight(table.power, table.first + table.rows, differences);
    }

    private int wrongRegisters() {
        putRegistersRight(rightRegisters);
        return table.registers.countUnlike(rightRegisters);
    }

    /** Does the order that begins at an index of the text; false, and nothing done, if its method would throw. */
    private boolean carryOut(int at) {
        switch (text.codeAt(at)) {
            case 'p':
                return carryOutPrint(text.numberAt(at + 1));
            case 's':
                return carryOutSlip(at);
            case 'c':
                putRegistersRight(table.registers);
                return true;
            default:
                table.types.makeNew(text.digitAt(at + 1));
                return true;
        }
    }

    private boolean carryOutPrint(int rows) {
        if (!table.hasRoomFor(rows)) {
            return false;
        }
        table.addRows(rows);
        return true;
    }

    private boolean carryOutSlip(int at) {
        int register = text.digitAt(at + 1);
        long amount = text.digitAt(at + 4) * tenToThe(text.digitAt(at + 2));
        if (text.codeAt(at + 3) == '-') {
            amount = -amount;
        }
        if (!isRegister(register) || !table.registers.canTake(register, amount)) {
            return false;
        }
        table.registers.add(register, amount);
        return true;
    }

    /** Finds the least fitting register, and leaves the differences of that order in differences. */
    private int findSlippedRegister(int firstWrong) {
        differences.clear();
        for (int row = firstWrong; row < table.rows; row++) {
            differences.put(table.error(row));
        }
        for (int order = 0; order < REGISTERS; order++) {
            if (differences.areOneNumber()) {
                return order;
            }
            differences.raiseOrder();
        }
        return NONE;
    }

    // ---- the parts of the digest

    private static long mix(long hash, long value) {
        return 31 * hash + value;
    }

    private long digestCounts(long start) {
        long hash = start;
        for (int what = 0; what < COUNTS; what++) {
            hash = mix(hash, count(what));
        }
        for (int i = 0; i < SETTINGS; i++) {
            hash = mix(hash, settingNow(i));
        }
        return hash;
    }

    private long digestRegisters(long start) {
        long hash = start;
        putRegistersRight(rightRegisters);
        for (int i = 0; i < REGISTERS; i++) {
            hash = mix(hash, table.registers.numbers[i]);
            hash = mix(hash, rightRegisters.numbers[i]);
        }
        return hash;
    }

    private long digestRows(long start) {
        long hash = start;
        for (int i = 0; i < table.rows; i++) {
            for (int what = 0; what < ROW_NUMBERS; what++) {
                hash = mix(hash, row(i, what));
            }
        }
        return hash;
    }

    private long digestGroups(long start) {
        long hash = start;
        int groups = table.wholeGroups(table.groupRows);
        for (int i = 0; i < groups; i++) {
            for (int what = 0; what < GROUP_NUMBERS; what++) {
                hash = mix(hash, group(i, what));
            }
        }
        return hash;
    }

    private long digestDifferences(long start) {
        long hash = start;
        if (table.rows > 0) {
            for (int order = 0; order < REGISTERS; order++) {
                hash = mix(hash, difference(order, 0));
            }
        }
        return hash;
    }

    private long digestTypes(long start) {
        long hash = start;
        for (int digit = 0; digit < DIGITS; digit++) {
            hash = mix(hash, table.types.wears[digit]);
        }
        return hash;
    }

    private long digestForecasts(long start) {
        long hash = start;
        for (int what = 0; what < GUESSES; what++) {
            hash = mix(hash, guess(what));
        }
        for (int what = 0; what < FORECASTS; what++) {
            hash = mix(hash, ifPrinted(DIGEST_ROWS_AHEAD, what));
        }
        hash = mix(hash, bestGroup());
        hash = mix(hash, mostWorn());
        return mix(hash, bitsOfShare(rightness()));
    }

    private long digestText(long start) {
        long hash = mix(start, text.length);
        for (int i = 0; i < text.length; i++) {
            hash = mix(hash, text.codeAt(i));
        }
        return hash;
    }

    /**
     * The bits of a share from 0.0 to 1.0, as Double.doubleToLongBits tells them.
     *
     * Reckoned by hand, as that function is not in the library that the program keeps to. Doubling is exact,
     * and a share of at most 40 rows, if it is not 0, is 1.0 or above within six doublings.
     */
    private static long bitsOfShare(double share) {
        if (share <= 0.0) {
            return 0;
        }
        double scaled = share;
        long exponent = EXPONENT_OF_ONE;
        for (int i = 0; i < MOST_ROWS && scaled < 1.0; i++) {
            scaled = scaled * 2.0;
            exponent--;
        }
        long fraction = (long) ((scaled - 1.0) * (1L << FRACTION_BITS));
        return (exponent << FRACTION_BITS) + fraction;
    }

    /** All that undo brings back. */
    private static final class Table {
        private int power;
        private int first;
        private int rows;
        private int groupRows = 5;
        private int rowsStruck;
        private final long[] printed = new long[MOST_ROWS];
        // Reckoned once, as the rows are printed: sums and checks ask for it over and over.
        private final long[] right = new long[MOST_ROWS];
        private final int[] blurred = new int[MOST_ROWS];
        private final Registers registers = new Registers();
        private final Types types = new Types();

        void copyFrom(Table other) {
            power = other.power;
            first = other.first;
            rows = other.rows;
            groupRows = other.groupRows;
            rowsStruck = other.rowsStruck;
            for (int i = 0; i < MOST_ROWS; i++) {
                printed[i] = other.printed[i];
                right[i] = other.right[i];
                blurred[i] = other.blurred[i];
            }
            registers.copyFrom(other.registers);
            types.copyFrom(other.types);
        }

        boolean hasRow(int row) {
            return row >= 0 && row < rows;
        }

        boolean hasRoomFor(int more) {
            return more <= MOST_ROWS - rows;
        }

        /** Also of a row that is not printed yet. */
        long reckonRight(int row) {
            return raise(first + row, power);
        }

        long error(int row) {
            return printed[row] - right[row];
        }

        boolean isWrong(int row) {
            return printed[row] != right[row];
        }

        /** Prints rows, for which there is room, and tells how many of their digits are blurred. */
        int addRows(int more) {
            int sum = 0;
            for (int i = 0; i < more && rows < MOST_ROWS; i++) {
                printed[rows] = registers.nextNumber();
                right[rows] = reckonRight(rows);
                blurred[rows] = types.printDigits(printed[rows]);
                sum += blurred[rows];
                rows++;
            }
            return sum;
        }

        int strikeAnew(int row) {
            printed[row] = right[row];
            blurred[row] = types.printDigits(printed[row]);
            rowsStruck++;
            return blurred[row];
        }

        int firstWrongRow() {
            for (int row = 0; row < rows; row++) {
                if (isWrong(row)) {
                    return row;
                }
            }
            return NONE;
        }

        int wrongRows(int from, int to) {
            int wrong = 0;
            for (int row = from; row < to; row++) {
                wrong += isWrong(row) ? 1 : 0;
            }
            return wrong;
        }

        long printedSum(int from, int to) {
            long sum = 0;
            for (int row = from; row < to; row++) {
                sum += printed[row];
            }
            return sum;
        }

        long rightSum(int from, int to) {
            long sum = 0;
            for (int row = from; row < to; row++) {
                sum += right[row];
            }
            return sum;
        }

        boolean isFoundWrong(int from, int to) {
            return printedSum(from, to) != rightSum(from, to);
        }

        int blurredDigits() {
            int sum = 0;
            for (int row = 0; row < rows; row++) {
                sum += blurred[row];
            }
            return sum;
        }

        int faultlessRows() {
            int faultless = 0;
            for (int row = 0; row < rows; row++) {
                faultless += !isWrong(row) && blurred[row] == 0 ? 1 : 0;
            }
            return faultless;
        }

        int wholeGroups(int size) {
            return size < 1 ? 0 : rows / size;
        }

        int groupsFoundWrong() {
            int wrong = 0;
            int groups = wholeGroups(groupRows);
            for (int i = 0; i < groups; i++) {
                wrong += isFoundWrong(i * groupRows, (i + 1) * groupRows) ? 1 : 0;
            }
            return wrong;
        }

        /** Whether each wrong row would lie in a whole group of this size that is found wrong. */
        boolean findsAllWith(int size) {
            int groups = wholeGroups(size);
            for (int i = 0; i < groups; i++) {
                int from = i * size;
                int to = from + size;
                if (wrongRows(from, to) > 0 && !isFoundWrong(from, to)) {
                    return false;
                }
            }
            return wrongRows(groups * size, rows) == 0;
        }

        static long raise(long base, int power) {
            long number = 1;
            for (int i = 0; i < power; i++) {
                number *= base;
            }
            return number;
        }
    }

    /** The registers of differences. */
    private static final class Registers {
        private final long[] numbers = new long[REGISTERS];

        void copyFrom(Registers other) {
            for (int i = 0; i < REGISTERS; i++) {
                numbers[i] = other.numbers[i];
            }
        }

        void putRight(int power, int argument, Differences work) {
            work.clear();
            for (int i = 0; i < REGISTERS; i++) {
                work.put(Table.raise(argument + i, power));
            }
            for (int i = 0; i < REGISTERS; i++) {
                numbers[i] = work.leading();
                work.raiseOrder();
            }
        }

        boolean canTake(int register, long amount) {
            long number = numbers[register] + amount;
            return number >= -MOST_IN_REGISTER && number <= MOST_IN_REGISTER;
        }

        void add(int register, long amount) {
            numbers[register] += amount;
        }

        /** Tells the number of the row, and goes on to the next row. */
        long nextNumber() {
            long number = numbers[0];
            // Upwards, so that each register still finds the next one as it was ahead of this row.
            for (int i = 0; i + 1 < REGISTERS; i++) {
                numbers[i] += numbers[i + 1];
            }
            return number;
        }

        int countUnlike(Registers other) {
            int unlike = 0;
            for (int i = 0; i < REGISTERS; i++) {
                unlike += numbers[i] != other.numbers[i] ? 1 : 0;
            }
            return unlike;
        }
    }

    /** The types of the digits, which wear. */
    private static final class Types {
        private static final int LONGEST_NUMBER = 19;

        private final int[] wears = new int[DIGITS];
        private int wearLimit = 50;
        private int digitsPrinted;

        void copyFrom(Types other) {
            for (int i = 0; i < DIGITS; i++) {
                wears[i] = other.wears[i];
            }
            wearLimit = other.wearLimit;
            digitsPrinted = other.digitsPrinted;
        }

        int makeNew(int digit) {
            int wear = wears[digit];
            wears[digit] = 0;
            return wear;
        }

        /** Prints a number, and tells how many of its digits are blurred. */
        int printDigits(long number) {
            int blurred = 0;
            // Below 0, as there each long has its counterpart.
            long rest = number > 0 ? -number : number;
            for (int i = 0; i < LONGEST_NUMBER && (i == 0 || rest != 0); i++) {
                int digit = (int) -(rest % 10);
                wears[digit]++;
                digitsPrinted++;
                blurred += wears[digit] > wearLimit ? 1 : 0;
                rest /= 10;
            }
            return blurred;
        }
    }

    /** Numbers of rows one behind the other, which give way to their differences. */
    private static final class Differences {
        private final long[] values = new long[MOST_ROWS];
        private int size;

        void clear() {
            size = 0;
        }

        void put(long value) {
            if (size < values.length) {
                values[size] = value;
                size++;
            }
        }

        void raiseOrder() {
            for (int i = 0; i + 1 < size; i++) {
                values[i] = values[i + 1] - values[i];
            }
            if (size > 0) {
                size--;
            }
        }

        long leading() {
            return size > 0 ? values[0] : 0;
        }

        /** Whether there are at least two, all the same and not 0. */
        boolean areOneNumber() {
            for (int i = 1; i < size; i++) {
                if (values[i] != values[0]) {
                    return false;
                }
            }
            return size >= 2 && values[0] != 0;
        }
    }

    /** The states that undo goes back to, the latest one last. */
    private static final class SavedTables {
        private static final int MOST_SAVED = 6;

        private final Table[] tables = new Table[MOST_SAVED];
        private int size;

        SavedTables() {
            for (int i = 0; i < MOST_SAVED; i++) {
                tables[i] = new Table();
            }
        }

        void keep(Table table) {
            if (size == MOST_SAVED) {
                dropOldest();
            }
            tables[size].copyFrom(table);
            size++;
        }

        /** Restores the latest state, and drops it. */
        void giveBack(Table table) {
            if (size > 0) {
                size--;
                table.copyFrom(tables[size]);
            }
        }

        private void dropOldest() {
            Table oldest = tables[0];
            for (int i = 1; i < MOST_SAVED; i++) {
                tables[i - 1] = tables[i];
            }
            // Its room is used again for the next one.
            tables[MOST_SAVED - 1] = oldest;
            size = MOST_SAVED - 1;
        }
    }

    /** The buffer, read as orders. */
    private static final class OrderText {
        private static final int MOST_LENGTH = 60;
        private static final int LOWEST_CODE = 33;
        private static final int HIGHEST_CODE = 126;

        // What may stand next.
        private static final int NOTHING = -1;
        private static final int ORDER = 0;
        private static final int ROWS = 1;
        private static final int DIGIT_OR_END = 2;
        private static final int ZERO_OR_END = 3;
        private static final int REGISTER = 4;
        private static final int COLUMN = 5;
        private static final int SIGN = 6;
        private static final int BY = 7;
        private static final int TYPE = 8;
        private static final int END = 9;

        private final int[] codes = new int[MOST_LENGTH];
        private int length;

        static boolean isCode(int code) {
            return code >= LOWEST_CODE && code <= HIGHEST_CODE;
        }

        boolean isFull() {
            return length >= MOST_LENGTH;
        }

        void add(int code) {
            if (length < MOST_LENGTH) {
                codes[length] = code;
                length++;
            }
        }

        /** 0 outside the text. */
        int codeAt(int index) {
            return index >= 0 && index < length ? codes[index] : 0;
        }

        int errorIndex() {
            int next = ORDER;
            for (int i = 0; i < length; i++) {
                next = nextBehind(next, codes[i]);
                if (next == NOTHING) {
                    return i;
                }
            }
            return length;
        }

        boolean isComplete() {
            int next = ORDER;
            for (int i = 0; i < length; i++) {
                next = nextBehind(next, codes[i]);
            }
            return next == END || next == DIGIT_OR_END || next == ZERO_OR_END;
        }

        boolean beginsOrder(int index) {
            return index == 0 || codeAt(index - 1) == ';';
        }

        int digitAt(int index) {
            int code = codeAt(index);
            return isBetween(code, '0', '9') ? code - '0' : 0;
        }

        /** The number of one or two digits that begins at an index. */
        int numberAt(int index) {
            int number = digitAt(index);
            return isBetween(codeAt(index + 1), '0', '9') ? 10 * number + digitAt(index + 1) : number;
        }

        private static boolean isBetween(int code, int low, int high) {
            return code >= low && code <= high;
        }

        private static int nextBehind(int next, int code) {
            switch (next) {
                case ORDER:
                    return nextBehindLetter(code);
                case ROWS:
                    return nextBehindRows(code);
                case DIGIT_OR_END:
                    return isBetween(code, '0', '9') ? END : nextBehindEnd(code);
                case ZERO_OR_END:
                    return code == '0' ? END : nextBehindEnd(code);
                case REGISTER:
                    return isBetween(code, '0', '5') ? COLUMN : NOTHING;
                case COLUMN:
                    return isBetween(code, '0', '9') ? SIGN : NOTHING;
                case SIGN:
                    return code == '+' || code == '-' ? BY : NOTHING;
                case BY:
                    return isBetween(code, '1', '9') ? END : NOTHING;
                case TYPE:
                    return isBetween(code, '0', '9') ? END : NOTHING;
                case END:
                    return nextBehindEnd(code);
                default:
                    return NOTHING;
            }
        }

        private static int nextBehindLetter(int code) {
            switch (code) {
                case 'p':
                    return ROWS;
                case 's':
                    return REGISTER;
                case 'c':
                    return END;
                case 'n':
                    return TYPE;
                default:
                    return NOTHING;
            }
        }

        /** Behind the first digit of how many rows: 1 to 40 lets 1, 2, 3 have any second one, and 4 a 0. */
        private static int nextBehindRows(int code) {
            if (isBetween(code, '1', '3')) {
                return DIGIT_OR_END;
            }
            if (code == '4') {
                return ZERO_OR_END;
            }
            return isBetween(code, '5', '9') ? END : NOTHING;
        }

        private static int nextBehindEnd(int code) {
            return code == ';' ? ORDER : NOTHING;
        }
    }
}
