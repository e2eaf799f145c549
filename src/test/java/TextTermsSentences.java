/** The sentences of the document's Terms from the buffer on. */
final class TextTermsSentences {
    private static final Class<IllegalArgumentException> ILLEGAL = IllegalArgumentException.class;
    private static final Class<IllegalStateException> STATE = IllegalStateException.class;
    private static final Class<IndexOutOfBoundsException> INDEX = IndexOutOfBoundsException.class;
    private static final String ANY_DIGIT = "0123456789";

    private final Sentences s;

    TextTermsSentences(Sentences sentences) {
        s = sentences;
    }

    void check() {
        s.section("Terms");
        buffer();
        orders();
        syntaxErrors();
        savedStates();
        exceptions();
        interfaceLines();
    }

    // ---- texts

    private void buffer() {
        s.holds("The buffer has at most 60 characters.", () -> {
            PowerTables x = States.written("~".repeat(58));
            s.due("the 59th", 59, x.append('~'));
            s.due("the 60th", 60, x.append('~'));
            s.refuses(STATE, States::full, "the 61st", full -> full.append('c'));
            s.due("its length", 60, x.clearBuffer());
        });
    }

    private void orders() {
        s.holds("Orders as a text are one or more parts with \";\" between them:", () -> {
            s.due("one", 1, States.written("c").obey());
            s.due("two", 2, States.written("c;c").obey());
            s.due("30", 30, States.written("c" + ";c".repeat(29)).obey());
            for (String text : new String[] {"", ";", "c;", ";c", "c;;c", "c;c;", "cc", "c,c"}) {
                s.refuses(ILLEGAL, () -> States.written(text), "orders " + text, PowerTables::obey);
            }
        });
        s.holds("\"p\" and how many rows are printed, 1 to 40, without a leading zero;", () -> {
            for (int rows = 1; rows <= 40; rows++) {
                PowerTables x = States.written("p" + rows);
                s.due("p" + rows, "1 " + rows, x.obey() + " " + x.count(2));
            }
            refusedOrders("p", "p0", "p00", "p01", "p040", "p41", "p49", "p50", "p100", "p400", "p-1", "p+1", "p4;p", "P1");
        });
        s.holds("\"s\", a register, 0 to 5, a column, 0 to 9, \"+\" or \"-\", and a digit 1 to 9: a slip;", () -> {
            slipOrder("s00+1", 0, 1);
            slipOrder("s50-9", 5, -9);
            slipOrder("s09-9", 0, -9000000000L);
            slipOrder("s59+9", 5, 9000000000L);
            slipOrder("s31-4", 3, -40);
            refusedOrders("s", "s0", "s00", "s00+", "s60+1", "s0:+1", "s00+0", "s00-0", "s00*1", "s001", "s00+10", "S00+1");
        });
        s.holds("\"c\": the registers are put right;", () -> {
            PowerTables x = States.written("p3;s12+4;s40-1;c");
            s.due("c", 4, x.obey());
            s.due("registers", "9 7 2 0 0 0", Told.registers(x, false));
            refusedOrders("C", "c0", "c1", "c+");
        });
        s.holds("or \"n\" and a digit 0 to 9: its type is renewed.", () -> {
            for (int digit = 0; digit <= 9; digit++) {
                PowerTables x = States.begun(1, 0);
                x.print(10);
                States.write(x, "n" + digit);
                s.due("n" + digit, 1, x.obey());
                s.due("the wear of " + digit, 0, x.wear(digit));
                s.due("wears but " + digit, 9, Told.wears(x).split("1", -1).length - 1);
            }
            refusedOrders("n", "n10", "n00", "n:", "n/", "n-1", "N1");
        });
    }

    private void slipOrder(String order, int register, long by) {
        PowerTables x = States.begun(3, 4);
        long before = x.register(register, false);
        States.write(x, order);
        s.due(order, 1, x.obey());
        s.due(order + ": the register", before + by, x.register(register, false));
        s.due(order + ": wrong registers", 1, x.count(8));
    }

    private void refusedOrders(String... texts) {
        for (String text : texts) {
            s.refuses(ILLEGAL, () -> States.written(text), "the order " + text, PowerTables::obey);
            s.refuses(ILLEGAL, () -> States.written("c;" + text), "the orders c;" + text, PowerTables::obey);
        }
    }

    private void syntaxErrors() {
        s.holds("The buffer is read from left to right;", () -> {
            s.due("the first of two errors", 1, States.written("p0;x").firstError());
            s.due("an error at once", 0, States.written("xp1").firstError());
            s.due("faultless orders ahead", 3, States.written("p1;;p1").firstError());
        });
        s.holds("a character is a syntax error if no orders as a text, of any length, begin with the characters before "
            + "it and this character.", () -> {
                for (String begin : new String[] {"", "c;", "p40;", "p9;", "n9;", "s00+1;", "p1;c;"}) {
                    nextOnes(begin, "pscn");
                }
                nextOnes("p", "123456789");
                nextOnesOfEach("p1 p2 p3", ANY_DIGIT + ";");
                nextOnes("p4", "0;");
                nextOnesOfEach("p5 p6 p7 p8 p9 p10 p19 p39 p40 c n0 n9 s00+1 s59-9 c;c", ";");
                nextOnes("s", "012345");
                nextOnesOfEach("s0 s5 n", ANY_DIGIT);
                nextOnesOfEach("s00 s09 s50 s59", "+-");
                nextOnesOfEach("s00+ s59-", "123456789");
                longestBuffers();
            });
    }

    private void nextOnesOfEach(String texts, String allowed) {
        for (String text : texts.split(" ")) {
            nextOnes(text, allowed);
        }
    }

    /** Of all characters that can stand behind this text, just these are no errors. */
    private void nextOnes(String text, String allowed) {
        for (char next = 33; next <= 126; next++) {
            int due = allowed.indexOf(next) >= 0 ? text.length() + 1 : text.length();
            s.due(text + next, due, States.written(text + next).firstError());
        }
    }

    /** Orders that are begun and could not be ended in 60 characters are no error. */
    private void longestBuffers() {
        String most = "c;".repeat(28);
        for (String end : new String[] {"c;c;", "s00+", "c;s0", "c;p4", "n1;p", "p40;"}) {
            s.due("60 characters, at the end " + end, 60, States.written(most + end).firstError());
        }
        s.due("the 60th is an error", 59, States.written(most + "s00*").firstError());
        s.due("the 60th is a second sign", 59, States.written(most + "c;cc").firstError());
    }

    // ---- saved states, exceptions

    private void savedStates() {
        s.holds("Each method that is marked \"undoable\" and does not throw an exception saves the state from before it "
            + "(also if it changes nothing):", () -> {
                s.undoable("begin of the same", PowerTables::new, x -> x.begin(2, 0));
                s.undoable("print", PowerTables::new, x -> x.print(1));
                s.undoable("slip by 0", PowerTables::new, x -> x.slip(0, 0, 0));
                s.undoable("correct of right registers", PowerTables::new, PowerTables::correct);
                s.undoable("strike of a right row", States::light, x -> x.strike(0));
                s.undoable("renew of a new type", PowerTables::new, x -> x.renew(0));
                s.undoable("set to the same", PowerTables::new, x -> x.set(0, 5));
                s.undoable("obey of what changes nothing", () -> States.written("c"), PowerTables::obey);
                s.changesNothing("a look", States::light, PowerTables::digest);
                s.refuses(ILLEGAL, PowerTables::new, "a method that throws", x -> x.print(0));
            });
        s.holds("all, also what is counted so far, but the buffer and the saved states.", () -> {
            PowerTables x = States.light();
            String before = Told.table(x);
            x.set(0, 2);
            x.set(1, 1);
            x.begin(5, 5);
            x.print(7);
            x.strike(3);
            x.clearBuffer();
            States.write(x, "zz");
            for (int left = 5; left >= 1; left--) {
                s.due("states left", left, x.undo());
            }
            s.due("all but the buffer", before, Told.table(x));
            s.due("the saved states are not saved", 1, x.count(11));
            s.due("the buffer", "0 2", x.firstError() + " " + x.clearBuffer());
        });
        s.holds("At most 6 states are saved; the oldest one is dropped first.", () -> {
            PowerTables x = new PowerTables();
            for (int first = 1; first <= 7; first++) {
                x.begin(0, first);
                s.due("saved behind " + first, Math.min(first, 6), x.count(11));
            }
            for (int first = 6; first >= 1; first--) {
                s.due("undo", first - 1, x.undo());
                s.due("the first argument", first, x.count(1));
            }
            s.due("the state with 0 is dropped", "throws IllegalStateException", Checks.answerOf(x::undo));
        });
    }

    private void exceptions() {
        s.holds("A call that throws an exception changes nothing.", () -> {
            s.alwaysRefuses(ILLEGAL, "begin", x -> x.begin(6, 99));
            s.alwaysRefuses(ILLEGAL, "print", x -> x.print(41));
            s.refuses(STATE, States::light, "print of 37 behind 4", x -> x.print(37));
            s.alwaysRefuses(INDEX, "slip", x -> x.slip(6, 9, 9));
            s.alwaysRefuses(ILLEGAL, "slip", x -> x.slip(5, 9, 10));
            s.alwaysRefuses(INDEX, "strike", x -> x.strike(40));
            s.alwaysRefuses(INDEX, "renew", x -> x.renew(10));
            s.alwaysRefuses(INDEX, "set", x -> x.set(2, 1));
            s.alwaysRefuses(ILLEGAL, "set", x -> x.set(0, 21));
            s.alwaysRefuses(ILLEGAL, "append", x -> x.append(127));
            s.refuses(STATE, States::full, "append", x -> x.append(33));
            s.refuses(ILLEGAL, States::busy, "obey", PowerTables::obey);
            s.refuses(STATE, PowerTables::new, "undo", PowerTables::undo);
            s.refuses(STATE, () -> States.written("p1"), "undo with a buffer", PowerTables::undo);
            s.alwaysRefuses(INDEX, "row", x -> x.row(40, 0));
            s.alwaysRefuses(INDEX, "register", x -> x.register(6, true));
            s.alwaysRefuses(ILLEGAL, "group", x -> x.group(0, 4));
            s.alwaysRefuses(ILLEGAL, "difference", x -> x.difference(6, 0));
            s.alwaysRefuses(INDEX, "difference", x -> x.difference(5, 40));
            s.alwaysRefuses(INDEX, "wear", x -> x.wear(10));
            s.alwaysRefuses(ILLEGAL, "count", x -> x.count(12));
            s.alwaysRefuses(INDEX, "setting", x -> x.setting(2));
            s.alwaysRefuses(ILLEGAL, "guess", x -> x.guess(3));
            s.alwaysRefuses(ILLEGAL, "ifPrinted", x -> x.ifPrinted(41, 0));
        });
        s.holds("If several exceptions apply, the one that is named first in the throws clause is thrown.", () -> {
            s.refuses(ILLEGAL, States::full, "print: rows and too many rows", x -> x.print(41));
            s.refuses(ILLEGAL, States::full, "append: the code and a full buffer", x -> x.append(127));
            s.alwaysRefuses(INDEX, "slip: register, column and by", x -> x.slip(6, 10, 10));
            s.refuses(INDEX, TextTermsSentences::loaded, "slip: register and too much", x -> x.slip(-1, 0, 1));
            s.refuses(ILLEGAL, TextTermsSentences::loaded, "slip: column and too much", x -> x.slip(5, 10, 1));
            s.refuses(ILLEGAL, TextTermsSentences::loaded, "slip: by and too much", x -> x.slip(5, 0, 10));
            s.alwaysRefuses(INDEX, "set: setting and value", x -> x.set(2, 0));
            s.alwaysRefuses(INDEX, "row: row and what", x -> x.row(40, 5));
            s.alwaysRefuses(ILLEGAL, "difference: order and row", x -> x.difference(6, 40));
        });
    }

    /** The register 5 is at its limit. */
    private static PowerTables loaded() {
        PowerTables x = States.begun(0, 0);
        States.load(x, 5, 1);
        return x;
    }

    private void interfaceLines() {
        s.holds("The constants: `NONE = -1`: There is nothing to return.", () -> {
            s.due("NONE", -1, PowerTables.NONE);
            s.due("no wrong row", PowerTables.NONE, new PowerTables().count(4));
        });
        s.saysNoAnswer("Ahead of the calls `begin`, `print`, `slip`, `correct`, `strike`, `renew`, `set` the interface "
            + "says: ---- printing.");
        s.holds("Ahead of the calls `append`, `clearBuffer`, `firstError`, `obey`, `undo` the interface says: ---- texts.",
            () -> {
                s.notUndoable("append", States::light, x -> x.append('c'));
                s.notUndoable("clearBuffer", States::light, PowerTables::clearBuffer);
                s.notUndoable("firstError", States::light, PowerTables::firstError);
            });
        s.holds("Ahead of the calls `row`, `register`, `group`, `difference`, `wear`, `count`, `setting` the interface "
            + "says: ---- looks; nothing is changed.", () -> {
                s.changesNothing("row", States::busy, x -> x.row(8, 3));
                s.changesNothing("difference", States::busy, x -> x.difference(5, 3));
                s.alwaysChangesNothing("register", x -> x.register(5, true));
                s.alwaysChangesNothing("group", x -> x.group(0, 3));
                s.alwaysChangesNothing("wear", x -> x.wear(9));
                s.alwaysChangesNothing("count", x -> x.count(8));
                s.alwaysChangesNothing("setting", x -> x.setting(1));
            });
        s.holds("Ahead of the calls `guess`, `ifPrinted`, `bestGroup`, `mostWorn`, `rightness`, `digest` the interface "
            + "says: ---- what is guessed, what would be; nothing is changed.", () -> {
                s.alwaysChangesNothing("guess", x -> x.guess(0));
                s.alwaysChangesNothing("ifPrinted", x -> x.ifPrinted(40, 2));
                s.alwaysChangesNothing("bestGroup", PowerTables::bestGroup);
                s.alwaysChangesNothing("mostWorn", PowerTables::mostWorn);
                s.alwaysChangesNothing("rightness", PowerTables::rightness);
                s.alwaysChangesNothing("digest", PowerTables::digest);
            });
    }
}
