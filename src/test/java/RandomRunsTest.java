import java.util.Random;
import java.util.TreeMap;

/** Runs of calls, drawn from fixed seeds, on the class and on the model, which have to answer alike. */
public final class RandomRunsTest {
    private static final int RUNS = 400;
    private static final int CALLS = 512;
    private static final int[] ODD = {
        Integer.MIN_VALUE, Integer.MIN_VALUE + 1, -1000, -2, -1, 0, 1, 2, 5, 6, 10, 12, 20, 21, 39, 40, 41, 99, 100,
        999, 1000, Integer.MAX_VALUE - 1, Integer.MAX_VALUE
    };

    private final Checks checks = new Checks("RandomRunsTest");
    private final TreeMap<String, Integer> seen = new TreeMap<>();
    private Random random;
    private PowerTables tables;
    private ModelTables model;
    private StringBuilder told;
    private int calls;

    public static void main(String[] args) {
        RandomRunsTest test = new RandomRunsTest();
        for (int run = 0; run < RUNS; run++) {
            test.run(run);
        }
        test.wholeFaceIsSeen();
        test.checks.end();
    }

    private void run(int seed) {
        random = new Random(seed);
        tables = new PowerTables();
        model = new ModelTables();
        told = new StringBuilder("run " + seed + ":");
        calls = 0;
        boolean isOdd = seed % 4 == 3;
        boolean isCalm = seed % 4 == 0;
        while (calls < CALLS - 1) {
            if (!isOdd && !isCalm && chance(10)) {
                writeOrders();
            } else if (!isCalm || chance(4) || calls < 4) {
                change(isOdd);
            } else {
                look(isOdd);
            }
            if (chance(6)) {
                compare("digest", "", () -> tables.digest(), () -> model.digest());
            }
        }
        compare("digest", "", () -> tables.digest(), () -> model.digest());
    }

    private boolean chance(int of) {
        return random.nextInt(of) == 0;
    }

    /** A number from low to high, now and then one that is next to them or far from them. */
    private int number(int low, int high, boolean isOdd) {
        if (isOdd && chance(3)) {
            return ODD[random.nextInt(ODD.length)];
        }
        if (chance(12)) {
            return chance(2) ? low - 1 : high + 1;
        }
        if (chance(8)) {
            return chance(2) ? low : high;
        }
        return low + random.nextInt(high - low + 1);
    }

    private void compare(String name, String arguments, Checks.Call got, Checks.Call want) {
        if (calls >= CALLS) {
            return;
        }
        calls++;
        told.append(' ').append(name).append('(').append(arguments).append(')');
        String due = Checks.answerOf(want);
        String answered = Checks.answerOf(got);
        String way = name + (due.startsWith("throws ") ? " " + due : "");
        seen.merge(way, 1, Integer::sum);
        checks.due(due.equals(answered) ? way : told.toString(), due, answered);
    }

    private void change(boolean isOdd) {
        switch (random.nextInt(isOdd ? 13 : 12)) {
            case 0 -> begin(number(0, 5, isOdd), number(0, chance(3) ? 9 : 99, isOdd));
            case 1, 2, 3 -> print(number(1, chance(6) ? 40 : 6, isOdd));
            case 4, 5 -> slip(number(0, 5, isOdd), chance(3) ? 9 : number(0, 9, isOdd), number(-9, 9, isOdd));
            case 6 -> compare("correct", "", () -> tables.correct(), () -> model.correct());
            case 7 -> strike(number(0, Math.max(model.count(2) - 1, 0), isOdd));
            case 8 -> renew(number(0, 9, isOdd));
            case 9 -> set(number(0, 1, isOdd));
            case 10 -> {
                if (chance(2)) {
                    compare("undo", "", () -> tables.undo(), () -> model.undo());
                }
            }
            case 11 -> slipFar(number(0, 5, isOdd));
            default -> append(number(33, 126, true));
        }
        if (chance(2)) {
            look(isOdd);
        }
    }

    private void begin(int power, int first) {
        compare("begin", power + ", " + first, () -> tables.begin(power, first), () -> model.begin(power, first));
    }

    private void print(int rows) {
        compare("print", "" + rows, () -> tables.print(rows), () -> model.print(rows));
    }

    private void slip(int register, int column, int by) {
        compare("slip", register + ", " + column + ", " + by,
            () -> tables.slip(register, column, by), () -> model.slip(register, column, by));
    }

    /** So that registers come to their limit. */
    private void slipFar(int register) {
        int by = chance(2) ? 9 : -9;
        int times = chance(6) ? 12 : 1;
        for (int i = 0; i < times; i++) {
            slip(register, 9, by);
        }
    }

    private void strike(int row) {
        compare("strike", "" + row, () -> tables.strike(row), () -> model.strike(row));
    }

    private void renew(int digit) {
        compare("renew", "" + digit, () -> tables.renew(digit), () -> model.renew(digit));
    }

    private void set(int setting) {
        int value = setting == 0 ? number(1, 20, false) : number(1, chance(4) ? 999 : 30, false);
        compare("set", setting + ", " + value, () -> tables.set(setting, value), () -> model.set(setting, value));
    }

    private void append(int code) {
        compare("append", "" + code, () -> tables.append(code), () -> model.append(code));
    }

    private void look(boolean isOdd) {
        int row = number(0, Math.max(model.count(2) - 1, 0), isOdd);
        switch (random.nextInt(13)) {
            case 0 -> lookAtRow(row, number(0, 4, isOdd));
            case 1 -> lookAtRegister(number(0, 5, isOdd), chance(2));
            case 2 -> lookAtGroup(number(0, 8, isOdd), number(0, 3, isOdd));
            case 3 -> lookAtDifference(number(0, 5, isOdd), row);
            case 4 -> lookAtDigit(number(0, 9, isOdd));
            case 5 -> lookAtCount(number(0, 11, isOdd));
            case 6 -> lookAtSetting(number(0, 1, isOdd));
            case 7 -> lookAtGuess(number(0, 2, isOdd));
            case 8 -> lookAhead(number(1, 40, isOdd), number(0, 2, isOdd));
            case 9 -> compare("bestGroup", "", () -> tables.bestGroup(), () -> model.bestGroup());
            case 10 -> compare("mostWorn", "", () -> tables.mostWorn(), () -> model.mostWorn());
            case 11 -> compare("rightness", "", () -> tables.rightness(), () -> model.rightness());
            default -> lookAtBuffer();
        }
    }

    private void lookAtRow(int row, int what) {
        compare("row", row + ", " + what, () -> tables.row(row, what), () -> model.row(row, what));
    }

    private void lookAtRegister(int register, boolean isRight) {
        compare("register", register + ", " + isRight,
            () -> tables.register(register, isRight), () -> model.register(register, isRight));
    }

    private void lookAtGroup(int group, int what) {
        compare("group", group + ", " + what, () -> tables.group(group, what), () -> model.group(group, what));
    }

    private void lookAtDifference(int order, int row) {
        compare("difference", order + ", " + row,
            () -> tables.difference(order, row), () -> model.difference(order, row));
    }

    private void lookAtDigit(int digit) {
        compare("wear", "" + digit, () -> tables.wear(digit), () -> model.wear(digit));
    }

    private void lookAtCount(int what) {
        compare("count", "" + what, () -> tables.count(what), () -> model.count(what));
    }

    private void lookAtSetting(int setting) {
        compare("setting", "" + setting, () -> tables.setting(setting), () -> model.setting(setting));
    }

    private void lookAtGuess(int what) {
        compare("guess", "" + what, () -> tables.guess(what), () -> model.guess(what));
    }

    private void lookAhead(int rows, int what) {
        compare("ifPrinted", rows + ", " + what,
            () -> tables.ifPrinted(rows, what), () -> model.ifPrinted(rows, what));
    }

    private void lookAtBuffer() {
        compare("firstError", "", () -> tables.firstError(), () -> model.firstError());
        if (chance(3)) {
            compare("obey", "", () -> tables.obey(), () -> model.obey());
        } else if (chance(3)) {
            compare("clearBuffer", "", () -> tables.clearBuffer(), () -> model.clearBuffer());
        }
    }

    /** Appends orders, now and then with a wrong character, and does them. */
    private void writeOrders() {
        StringBuilder text = new StringBuilder();
        int parts = chance(5) ? 20 : 1 + random.nextInt(5);
        for (int i = 0; i < parts; i++) {
            text.append(i == 0 ? "" : ";").append(order());
        }
        if (chance(4)) {
            String signs = "pscn;+-0123456789/:,.x~!";
            text.setCharAt(random.nextInt(text.length()), signs.charAt(random.nextInt(signs.length())));
        } else if (chance(6)) {
            text.setLength(random.nextInt(text.length()));
        }
        for (int i = 0; i < text.length(); i++) {
            append(text.charAt(i));
        }
        compare("firstError", "", () -> tables.firstError(), () -> model.firstError());
        compare("obey", "", () -> tables.obey(), () -> model.obey());
        if (!chance(4)) {
            compare("clearBuffer", "", () -> tables.clearBuffer(), () -> model.clearBuffer());
        }
    }

    private String order() {
        return switch (random.nextInt(7)) {
            case 0, 1, 2 -> "p" + (1 + random.nextInt(chance(5) ? 40 : 4));
            case 3, 4 -> "s" + random.nextInt(6) + (chance(3) ? 9 : random.nextInt(10)) + (chance(2) ? '+' : '-')
                + (1 + random.nextInt(9));
            case 5 -> "c";
            default -> "n" + random.nextInt(10);
        };
    }

    /** The runs are worth little if they do not come by each method, and each exception that it names. */
    private void wholeFaceIsSeen() {
        for (java.lang.reflect.Method method : PowerTables.class.getMethods()) {
            if (method.getDeclaringClass() == PowerTables.class) {
                checks.isTrue("the runs call " + method.getName(), seen.containsKey(method.getName()));
                for (Class<?> thrown : method.getExceptionTypes()) {
                    String way = method.getName() + " throws " + thrown.getSimpleName();
                    checks.isTrue("the runs see " + way, seen.containsKey(way));
                }
            }
        }
    }
}
