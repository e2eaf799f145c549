import java.util.function.Supplier;

/** The sentences of the promises 9 to 13. */
final class TextsSentences {
    private static final Class<IllegalArgumentException> ILLEGAL = IllegalArgumentException.class;
    private static final Class<IllegalStateException> STATE = IllegalStateException.class;

    private final Sentences s;

    TextsSentences(Sentences sentences) {
        s = sentences;
    }

    void check() {
        append();
        clearBuffer();
        firstError();
        obey();
        obeyStops();
        obeyReturns();
        undo();
    }

    /** With some text in the buffer, and all else as it is in one of the states. */
    private static Supplier<PowerTables> with(Supplier<PowerTables> make, String text) {
        return () -> {
            PowerTables x = make.get();
            x.clearBuffer();
            States.write(x, text);
            return x;
        };
    }

    private void append() {
        s.section("Promise 9: append");
        s.holds("Appends a character to the buffer.", () -> {
            PowerTables x = States.written("p");
            s.due("faultless up to here", 1, x.firstError());
            x.append('4');
            x.append('1');
            s.due("the characters in their order", 2, x.firstError());
            s.due("the digest tells each", Told.hashOf(x, 'p', '4', '1'), x.digest());
            for (Supplier<PowerTables> make : States.ALL) {
                s.notUndoable("append", with(make, "p"), each -> each.append('1'));
            }
        });
        s.holds("- `code`: the character code, 33 to 126", () -> {
            for (int code : States.inside(33, 126)) {
                PowerTables x = new PowerTables();
                s.due("code " + code, 1, x.append(code));
                s.due("code " + code + " in the digest", Told.hashOf(x, code), x.digest());
            }
        });
        s.holds("Returns the new length of the buffer.", () -> {
            PowerTables x = new PowerTables();
            for (int length = 1; length <= 60; length++) {
                s.due("length", length, x.append(33 + length));
            }
        });
        s.holds("Throws `IllegalArgumentException` if code is not 33 to 126", () -> {
            for (int code : States.outside(33, 126)) {
                s.alwaysRefuses(ILLEGAL, "code " + code, x -> x.append(code));
            }
            for (int code : new int[] {0, 10, 32, 127, 128, 255}) {
                s.alwaysRefuses(ILLEGAL, "code " + code, x -> x.append(code));
            }
        });
        s.holds("Throws `IllegalStateException` if the buffer has 60 characters", () -> {
            s.refuses(STATE, with(States::light, "x".repeat(60)), "the 61st", x -> x.append(33));
            s.refuses(STATE, with(States::busy, "c;".repeat(30)), "the 61st", x -> x.append('c'));
            PowerTables x = States.written("x".repeat(59));
            s.due("the 60th", 60, x.append(126));
            x.clearBuffer();
            s.due("the first of a cleared one", 1, x.append(126));
        });
    }

    private void clearBuffer() {
        s.section("Promise 10: clearBuffer");
        s.holds("Clears the buffer.", () -> {
            PowerTables x = States.written("p1;x");
            x.clearBuffer();
            s.due("no characters in the digest", Told.hashOf(x), x.digest());
            s.due("no error", 0, x.firstError());
            States.write(x, "c");
            s.due("what comes is all there is", 1, x.obey());
            for (Supplier<PowerTables> make : States.ALL) {
                s.notUndoable("clearBuffer", make, PowerTables::clearBuffer);
            }
        });
        s.holds("Returns the length that it had.", () -> {
            PowerTables x = new PowerTables();
            s.due("of a new object", 0, x.clearBuffer());
            for (int length : States.inside(1, 60)) {
                States.write(x, "~".repeat(length));
                s.due("length", length, x.clearBuffer());
                s.due("cleared", 0, x.clearBuffer());
            }
        });
    }

    private void firstErrorIs(int want, String text) {
        PowerTables x = States.written(text);
        s.due(text, want, x.firstError());
        s.due(text + " again", want, x.firstError());
    }

    private void firstError() {
        s.section("Promise 11: firstError");
        s.holds("Finds the first syntax error of the buffer.", () -> {
            firstErrorIs(2, "p1x;x");
            firstErrorIs(1, "p0");
            firstErrorIs(2, "p41");
            firstErrorIs(1, "s6");
            firstErrorIs(4, "s00+0");
            firstErrorIs(2, "n10");
            s.alwaysChangesNothing("firstError", PowerTables::firstError);
        });
        s.holds("Returns the index of the first character that is a syntax error; the length of the buffer if there is "
            + "none.", () -> {
                firstErrorIs(0, "");
                firstErrorIs(0, "x");
                firstErrorIs(0, ";");
                firstErrorIs(1, "c");
                firstErrorIs(1, "cc");
                firstErrorIs(2, "c;");
                firstErrorIs(2, "c;;");
                firstErrorIs(3, "p40");
                firstErrorIs(3, "p400");
                firstErrorIs(59, "c;".repeat(29) + "c");
                firstErrorIs(60, "c;".repeat(30));
                firstErrorIs(59, "c;".repeat(29) + "cc");
            });
    }

    private void obey() {
        s.section("Promise 12: obey");
        s.holds("Does the orders in the buffer, one after the other,", () -> {
            PowerTables x = States.begun(1, 3);
            States.write(x, "p2;s11-4;p1;c;p1;n3;s00+9");
            s.due("orders", 7, x.obey());
            s.due("rows", "3 4 5 6", Told.column(x, 1));
            s.due("registers", "16 1 0 0 0 0", Told.registers(x, false));
            s.due("the type 3 is new", "0 0 0 0 1 1 1 0 0 0", Told.wears(x));
            States.write(x, "p1;s11-4;p1;s50+1;p1");
            s.due("orders", 5, x.obey());
            s.due("rows", "3 4 5 6 16 17 -22", Told.column(x, 1));
            s.due("registers", "-61 -39 0 0 1 1", Told.registers(x, false));
        });
        s.holds("and clears the buffer.", () -> {
            for (String orders : new String[] {"c", "p40", "p40;p1", "p40;p40;c"}) {
                PowerTables x = States.written(orders);
                x.obey();
                s.due("the buffer behind " + orders, 0, x.clearBuffer());
            }
            PowerTables none = with(States::full, "p1;c").get();
            none.obey();
            s.due("the buffer if none is done", 0, none.clearBuffer());
        });
        s.holds("Undoable, as one call, also if none is done.", () -> {
            for (Supplier<PowerTables> make : States.ALL) {
                s.undoable("many orders", with(make, "c;s12+4;n1;s50-9;c;n0;n9;p1;p2"), PowerTables::obey);
            }
            s.undoable("none of one is done", with(States::full, "p1"), PowerTables::obey);
            s.undoable("none of two is done", with(States::light, "p37;c"), PowerTables::obey);
            s.undoable("none is done, with six states", with(States::busy, "p40;n0"), PowerTables::obey);
        });
    }

    private void obeyStops() {
        s.holds("up to the first one by which its method would throw an exception,", () -> {
            stops("p40;p1;c", 1, 40);
            stops("p39;p1;p1", 2, 40);
            stops("p39;p2;p1", 1, 39);
            stops("p1;p40;p1", 1, 1);
            stops("p20;p20;c;p1;n1", 3, 40);
            slipStops(1);
            slipStops(-1);
        });
    }

    private void stops(String orders, int done, int rows) {
        PowerTables x = States.written(orders);
        s.due(orders, done + " " + rows, x.obey() + " " + x.count(2));
    }

    /** With the register 4 nine below its limit, or above its lower one. */
    private void slipStops(int sign) {
        String plus = sign > 0 ? "+" : "-";
        Supplier<PowerTables> make = () -> {
            PowerTables x = States.begun(0, 0);
            States.load(x, 4, sign);
            x.slip(4, 0, -9 * sign);
            return x;
        };
        PowerTables upTo = with(make, "s40" + plus + "9;p1").get();
        s.due("up to the limit", 2, upTo.obey());
        s.due("the register at the limit", sign * States.MOST_IN_REGISTER, upTo.register(4, false));
        PowerTables above = with(make, "s40" + plus + "8;s40" + plus + "2;p1").get();
        s.due("above the limit", 1, above.obey());
        s.due("the register ahead of that", sign * (States.MOST_IN_REGISTER - 1), above.register(4, false));
        s.due("no row behind that", 0, above.count(2));
        PowerTables far = with(make, "s49" + plus + "9").get();
        s.due("far above the limit", 0, far.obey());
        s.due("the register as it was", sign * (States.MOST_IN_REGISTER - 9), far.register(4, false));
    }

    private void obeyReturns() {
        s.holds("Returns how many orders are done.", () -> {
            s.due("none", 0, with(States::full, "p1").get().obey());
            s.due("one", 1, States.written("n0").obey());
            s.due("30", 30, States.written("c" + ";c".repeat(29)).obey());
            s.due("all but the last", 2, with(States::full, "c;c;p1").get().obey());
        });
        s.holds("Throws `IllegalArgumentException` if the buffer is not complete orders as a text", () -> {
            String[] texts = {
                "", "p", "s", "s0", "s00", "s00+", "n", "c;", "p1;", "p1;p", "p1;s00+", "x", "p1;x", "p0", "p41", "p1;;c",
                ";c", "c" + ";c".repeat(29) + ";", "c;".repeat(28) + "s00+", "x".repeat(60)
            };
            for (String text : texts) {
                for (Supplier<PowerTables> make : States.ALL) {
                    s.refuses(ILLEGAL, with(make, text), "orders " + text, PowerTables::obey);
                }
            }
            for (String text : new String[] {"c", "p1", "p4", "p40", "n0", "s00+1", "p1;s00+1", "c;p4"}) {
                PowerTables x = States.written(text);
                s.due("complete: " + text, text.split(";").length, x.obey());
            }
        });
    }

    private void undo() {
        s.section("Promise 13: undo");
        s.holds("Restores the latest saved state, and drops it.", () -> {
            for (Supplier<PowerTables> make : States.ALL) {
                PowerTables x = make.get();
                String before = Told.table(x);
                x.begin(1, 1);
                String behind = Told.table(x);
                x.begin(1, 2);
                x.undo();
                s.due("the latest one", behind, Told.table(x));
                x.undo();
                s.due("the one ahead of it", before, Told.table(x));
            }
            PowerTables x = States.begun(1, 1);
            x.begin(1, 2);
            x.undo();
            x.begin(1, 3);
            x.undo();
            s.due("what was undone is gone", 1, x.count(1));
            States.write(x, "zz");
            x.undo();
            s.due("the buffer stays", 2, x.clearBuffer());
            States.write(x, "c");
            x.obey();
            x.undo();
            s.due("orders do not come back", 0, x.clearBuffer());
        });
        s.holds("Returns how many saved states are left.", () -> {
            for (int states = 1; states <= 8; states++) {
                PowerTables x = new PowerTables();
                for (int i = 0; i < states; i++) {
                    x.correct();
                }
                for (int left = Math.min(states, 6) - 1; left >= 0; left--) {
                    s.due("left", left, x.undo());
                    s.due("counted", left, x.count(11));
                }
            }
        });
        s.holds("Throws `IllegalStateException` if there is none", () -> {
            s.refuses(STATE, PowerTables::new, "a new object", PowerTables::undo);
            s.refuses(STATE, () -> States.written("p1;x"), "a buffer alone", PowerTables::undo);
            for (int states = 1; states <= 8; states++) {
                int rows = states;
                s.refuses(STATE, () -> allUndone(rows), "all of " + states + " undone", PowerTables::undo);
            }
        });
    }

    private static PowerTables allUndone(int rows) {
        PowerTables x = new PowerTables();
        for (int i = 0; i < rows; i++) {
            x.print(1);
        }
        for (int left = Math.min(rows, 6); left > 0; left--) {
            x.undo();
        }
        return x;
    }
}
