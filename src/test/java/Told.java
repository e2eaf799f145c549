/** What objects tell, as texts that can be compared. */
final class Told {
    private Told() {
    }

    static String registers(PowerTables x, boolean isRight) {
        StringBuilder told = new StringBuilder();
        for (int i = 0; i < 6; i++) {
            told.append(i == 0 ? "" : " ").append(x.register(i, isRight));
        }
        return told.toString();
    }

    /** One of the five numbers of each row. */
    static String column(PowerTables x, int what) {
        StringBuilder told = new StringBuilder();
        int rows = x.count(2);
        for (int i = 0; i < rows; i++) {
            told.append(i == 0 ? "" : " ").append(x.row(i, what));
        }
        return told.toString();
    }

    static String wears(PowerTables x) {
        StringBuilder told = new StringBuilder();
        for (int i = 0; i < 10; i++) {
            told.append(i == 0 ? "" : " ").append(x.wear(i));
        }
        return told.toString();
    }

    static String counts(PowerTables x) {
        return countsButStates(x) + " " + x.count(11);
    }

    private static String countsButStates(PowerTables x) {
        StringBuilder told = new StringBuilder();
        for (int i = 0; i < 11; i++) {
            told.append(i == 0 ? "" : " ").append(x.count(i));
        }
        return told.toString();
    }

    static String settings(PowerTables x) {
        return x.setting(0) + " " + x.setting(1);
    }

    static String group(PowerTables x, int group) {
        return x.group(group, 0) + " " + x.group(group, 1) + " " + x.group(group, 2) + " " + x.group(group, 3);
    }

    static String guess(PowerTables x) {
        return x.guess(0) + " " + x.guess(1) + " " + x.guess(2);
    }

    static String ifPrinted(PowerTables x, int rows) {
        return x.ifPrinted(rows, 0) + " " + x.ifPrinted(rows, 1) + " " + x.ifPrinted(rows, 2);
    }

    /** All but the saved states and the buffer; some 130 calls at most. */
    static String table(PowerTables x) {
        return String.join(" / ", countsButStates(x), settings(x), registers(x, false), registers(x, true),
            column(x, 1), column(x, 4), wears(x), guess(x), ifPrinted(x, 40),
            x.bestGroup() + " " + x.mostWorn() + " " + x.rightness());
    }

    /** Of the buffer its first error, and as part of the digest its characters. */
    static String all(PowerTables x) {
        return table(x) + " / " + x.count(11) + " " + x.firstError() + " " + x.digest();
    }

    /** What undo brings back, one state after the other, and the buffer's length; the object is used up by that. */
    static String behind(PowerTables x) {
        StringBuilder told = new StringBuilder();
        int states = x.count(11);
        for (int i = 0; i < states; i++) {
            told.append(x.undo()).append(": ").append(counts(x)).append(" ").append(x.digest()).append(" / ");
        }
        return told.append(Checks.answerOf(x::undo)).append(" ").append(x.clearBuffer()).toString();
    }

    /** The digest, from the looks, as the document lists them; the buffer has these characters. */
    static long hashOf(PowerTables x, int... codes) {
        java.util.List<Long> values = new java.util.ArrayList<>();
        for (int i = 0; i < 12; i++) {
            values.add((long) x.count(i));
        }
        values.add((long) x.setting(0));
        values.add((long) x.setting(1));
        for (int i = 0; i < 6; i++) {
            values.add(x.register(i, false));
            values.add(x.register(i, true));
        }
        addRowsAndGroups(x, values);
        for (int i = 0; i < 10; i++) {
            values.add((long) x.wear(i));
        }
        for (int what = 0; what < 3; what++) {
            values.add(x.guess(what));
        }
        for (int what = 0; what < 3; what++) {
            values.add(x.ifPrinted(3, what));
        }
        values.add((long) x.bestGroup());
        values.add((long) x.mostWorn());
        values.add(Double.doubleToLongBits(x.rightness()));
        values.add((long) codes.length);
        for (int code : codes) {
            values.add((long) code);
        }
        return hashOf(values);
    }

    private static void addRowsAndGroups(PowerTables x, java.util.List<Long> values) {
        int rows = x.count(2);
        for (int i = 0; i < rows; i++) {
            for (int what = 0; what < 5; what++) {
                values.add(x.row(i, what));
            }
        }
        int groups = x.count(5);
        for (int i = 0; i < groups; i++) {
            for (int what = 0; what < 4; what++) {
                values.add(x.group(i, what));
            }
        }
        for (int order = 0; order < 6 && rows > 0; order++) {
            values.add(x.difference(order, 0));
        }
    }

    static long hashOf(java.util.List<Long> values) {
        long hash = 2957;
        for (long value : values) {
            hash = 31 * hash + value;
        }
        return hash;
    }
}
