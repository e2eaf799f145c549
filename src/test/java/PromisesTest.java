/** The promises of the document, one after the other, with answers reckoned by hand. */
public final class PromisesTest {
    private static final Checks CHECKS = new Checks("PromisesTest");
    private static final Class<IllegalArgumentException> ILLEGAL = IllegalArgumentException.class;
    private static final Class<IllegalStateException> STATE = IllegalStateException.class;
    private static final Class<IndexOutOfBoundsException> INDEX = IndexOutOfBoundsException.class;
    private static final int[] FAR = {Integer.MIN_VALUE, -1, Integer.MAX_VALUE};

    public static void main(String[] args) {
        constants();
        promise1NewObject();
        promise2Begin();
        promise2BeginKeepsTypesAndCounts();
        promise3Print();
        promise3PrintBlurs();
        promise3PrintBelowZero();
        promise4Slip();
        promise4SlipLimit();
        promise5Correct();
        promise6Strike();
        promise7Renew();
        promise8Set();
        promise9Append();
        promise10ClearBuffer();
        promise11FirstError();
        promise12Obey();
        promise12ObeyStops();
        promise12ObeyIncomplete();
        promise13Undo();
        promise13UndoLeavesTheBuffer();
        promise13UndoGivesBackRows();
        promise13UndoOfEachMethod();
        promise14Row();
        promise15Register();
        promise16Group();
        promise16GroupThatCancels();
        promise17Difference();
        promise18Wear();
        promise19Count();
        promise20Setting();
        promise21Guess();
        promise21GuessEdges();
        promise21GuessUpToOrder5();
        promise22IfPrinted();
        promise23BestGroup();
        promise24MostWorn();
        promise25Rightness();
        promise26Digest();
        looksChangeNothing();
        exceptionsChangeNothing();
        CHECKS.end();
    }

    // ---- helpers

    private static void due(String what, Object want, Object got) {
        CHECKS.due(what, want, got);
    }

    private static void throwing(String what, Class<? extends RuntimeException> want, Checks.Call call) {
        CHECKS.throwing(what, want, call);
    }

    // ---- the promises

    private static void constants() {
        due("NONE", -1, PowerTables.NONE);
    }

    private static void promise1NewObject() {
        PowerTables x = new PowerTables();
        due("new: counts", "2 0 0 0 -1 0 0 0 0 0 0 0", Told.counts(x));
        due("new: registers", "0 1 2 0 0 0", Told.registers(x, false));
        due("new: right registers", "0 1 2 0 0 0", Told.registers(x, true));
        due("new: settings", "5 50", x.setting(0) + " " + x.setting(1));
        due("new: wears", "0 0 0 0 0 0 0 0 0 0", Told.wears(x));
        due("new: buffer", 0, x.clearBuffer());
        throwing("new: undo", STATE, x::undo);
    }

    private static void promise2Begin() {
        PowerTables x = new PowerTables();
        due("begin(5, 99)", 0, x.begin(5, 99));
        due("begin: power", 5, x.count(0));
        due("begin: first", 99, x.count(1));
        due("begin: registers", "9509900499 490099501 20001000 606030 12120 120", Told.registers(x, false));
        x.print(7);
        due("begin behind 7 rows", 7, x.begin(0, 0));
        due("begin: no rows", 0, x.count(2));
        throwing("begin: no row 0", INDEX, () -> x.row(0, 0));
        due("0 to the power 0", "1 0 0 0 0 0", Told.registers(x, false));
        x.slip(0, 0, 1);
        x.begin(1, 0);
        due("begin puts registers right", "0 1 0 0 0 0", Told.registers(x, false));
        for (int far : FAR) {
            throwing("begin: power " + far, ILLEGAL, () -> x.begin(far, 0));
            throwing("begin: first " + far, ILLEGAL, () -> x.begin(0, far));
        }
        throwing("begin: power 6", ILLEGAL, () -> x.begin(6, 0));
        throwing("begin: first 100", ILLEGAL, () -> x.begin(0, 100));
    }

    private static void promise2BeginKeepsTypesAndCounts() {
        PowerTables x = new PowerTables();
        x.print(4);
        x.strike(3);
        x.set(0, 7);
        x.set(1, 3);
        x.begin(3, 1);
        due("begin keeps wears", "1 1 0 0 1 0 0 0 0 2", Told.wears(x));
        due("begin keeps settings", "7 3", x.setting(0) + " " + x.setting(1));
        due("begin keeps counts", "3 1 0 0 -1 0 0 0 0 5 1 5", Told.counts(x));
    }

    private static void promise3Print() {
        PowerTables x = States.begun(3, 2);
        due("print(4)", 0, x.print(4));
        due("print: numbers", "8 27 64 125", Told.column(x, 1));
        due("print: registers go on", "216 127 42 6 0 0", Told.registers(x, false));
        due("print: digits", 8, x.count(9));
        due("print: wears", "0 1 2 0 1 1 1 1 1 0", Told.wears(x));
        due("print: one saved state", 2, x.count(11));
        x.undo();
        due("print: undone as one call", 0, x.count(2));
        x.print(40);
        throwing("print(1) of row 41", STATE, () -> x.print(1));
        throwing("print(0) of a full table", ILLEGAL, () -> x.print(0));
        throwing("print(41) of a full table", ILLEGAL, () -> x.print(41));
        x.begin(3, 2);
        x.print(39);
        throwing("print(2) behind 39 rows", STATE, () -> x.print(2));
        x.print(1);
        due("print: 40 rows", 40, x.count(2));
        for (int far : FAR) {
            throwing("print: rows " + far, ILLEGAL, () -> x.print(far));
        }
    }

    private static void promise3PrintBlurs() {
        PowerTables x = new PowerTables();
        x.set(1, 2);
        x.begin(0, 5);
        due("print: worn up to the limit", 0, x.print(2));
        due("print: above the limit", 1, x.print(1));
        due("print: blurred digits kept", "0 0 1", Told.column(x, 4));
        x.begin(2, 11);
        due("print: 121 with a worn 1", 2, x.print(1));
        x.begin(2, 15);
        due("print: 225 with 2 worn once", 1, x.print(1));
    }

    private static void promise3PrintBelowZero() {
        PowerTables x = States.begun(1, 0);
        x.slip(0, 1, -5);
        x.print(1);
        due("print: -50", "-50", Told.column(x, 1));
        due("print: without sign", "1 0 0 0 0 1 0 0 0 0", Told.wears(x));
        due("print: two digits", 2, x.count(9));
        x.begin(1, 0);
        x.print(1);
        due("print: 0 as one digit", 3, x.count(9));
        due("print: the type of 0", 2, x.wear(0));
    }

    private static void promise4Slip() {
        PowerTables x = new PowerTables();
        due("slip(1, 2, 3)", 300, x.slip(1, 2, 3));
        due("slip(5, 9, -9)", -9000000000L, x.slip(5, 9, -9));
        due("slip(0, 0, 0)", 0, x.slip(0, 0, 0));
        due("slip: registers", "0 301 2 0 0 -9000000000", Told.registers(x, false));
        due("slip: right registers stay", "0 1 2 0 0 0", Told.registers(x, true));
        due("slip: saved also if it changes nothing", 3, x.count(11));
        for (int far : FAR) {
            throwing("slip: register " + far, INDEX, () -> x.slip(far, 10, 10));
            throwing("slip: column " + far, ILLEGAL, () -> x.slip(5, far, 1));
        }
        throwing("slip: register 6", INDEX, () -> x.slip(6, 0, 0));
        throwing("slip: column 10", ILLEGAL, () -> x.slip(5, 10, 0));
        throwing("slip: by 10", ILLEGAL, () -> x.slip(5, 0, 10));
        throwing("slip: by -10", ILLEGAL, () -> x.slip(5, 0, -10));
        throwing("slip: by least int", ILLEGAL, () -> x.slip(5, 0, Integer.MIN_VALUE));
    }

    private static void promise4SlipLimit() {
        PowerTables x = States.begun(0, 0);
        x.slip(0, 0, -1);
        for (int i = 0; i < 11; i++) {
            x.slip(0, 9, 9);
        }
        for (int column = 8; column >= 0; column--) {
            x.slip(0, column, 9);
        }
        due("slip: 99999999999", 99999999999L, x.register(0, false));
        due("slip: by 0 up there", 0, x.slip(0, 0, 0));
        throwing("slip: above 99999999999", STATE, () -> x.slip(0, 0, 1));
        throwing("slip: column ahead of state", ILLEGAL, () -> x.slip(0, 10, 1));
        for (int i = 0; i < 22; i++) {
            x.slip(0, 9, -9);
        }
        due("slip: down", -98000000001L, x.register(0, false));
        throwing("slip: below -99999999999", STATE, () -> x.slip(0, 9, -9));
        x.slip(0, 9, -1);
        for (int column = 8; column >= 1; column--) {
            x.slip(0, column, -9);
        }
        throwing("slip: -100000000000", STATE, () -> x.slip(0, 0, -9));
        due("slip: -99999999999", -8, x.slip(0, 0, -8));
        due("slip: register down there", -99999999999L, x.register(0, false));
        throwing("slip: one below", STATE, () -> x.slip(0, 0, -1));
        x.begin(0, 0);
        x.slip(1, 9, 9);
        x.print(12);
        due("slip: register above by printing", 108000000001L, x.register(0, false));
        throwing("slip: still above", STATE, () -> x.slip(0, 9, -8));
        throwing("slip: by 0 is above too", STATE, () -> x.slip(0, 0, 0));
        due("slip: back below", -9000000000L, x.slip(0, 9, -9));
    }

    private static void promise5Correct() {
        PowerTables x = States.begun(3, 2);
        due("correct: none wrong", 0, x.correct());
        due("correct: none wrong, but a state is saved", 2, x.count(11));
        x.slip(2, 0, 5);
        due("correct: one wrong", 1, x.correct());
        due("correct: registers", "8 19 18 6 0 0", Told.registers(x, false));
        x.slip(5, 0, 1);
        x.print(6);
        due("correct: all wrong", 6, x.correct());
        due("correct: for the next row", "512 217 54 6 0 0", Told.registers(x, false));
        due("correct: rows stay", 1, x.count(3));
        x.print(34);
        x.correct();
        due("correct: behind row 39", "74088 5419 258 6 0 0", Told.registers(x, false));
    }

    private static void promise6Strike() {
        PowerTables x = States.begun(1, 5);
        x.set(1, 1);
        x.slip(0, 1, 7);
        x.print(2);
        due("strike: errors ahead", "70 70", Told.column(x, 3));
        due("strike: blurs ahead", "0 1", Told.column(x, 4));
        x.renew(6);
        due("strike(1): 6 is new, 7 is not", 0, x.strike(1));
        due("strike: errors", "70 0", Told.column(x, 3));
        due("strike: blurs", "0 0", Told.column(x, 4));
        due("strike: registers stay", "77 1 0 0 0 0", Told.registers(x, false));
        due("strike(1) anew", 1, x.strike(1));
        due("strike: blurs", "0 1", Told.column(x, 4));
        due("strike: digits", 6, x.count(9));
        due("strike: rows struck", 2, x.count(10));
        for (int far : FAR) {
            throwing("strike(" + far + ")", INDEX, () -> x.strike(far));
        }
        throwing("strike(2) of 2 rows", INDEX, () -> x.strike(2));
        throwing("strike(0) without rows", INDEX, () -> new PowerTables().strike(0));
    }

    private static void promise7Renew() {
        PowerTables x = States.begun(0, 0);
        x.set(1, 2);
        x.print(4);
        due("renew(1)", 4, x.renew(1));
        due("renew: wear", 0, x.wear(1));
        due("renew: rows stay blurred", "0 0 1 1", Told.column(x, 4));
        due("renew: digits stay counted", 4, x.count(9));
        due("renew: prints clear", 0, x.print(2));
        due("renew(9)", 0, x.renew(9));
        due("renew(0)", 0, x.renew(0));
        for (int far : FAR) {
            throwing("renew(" + far + ")", INDEX, () -> x.renew(far));
        }
        throwing("renew(10)", INDEX, () -> x.renew(10));
    }

    private static void promise8Set() {
        PowerTables x = new PowerTables();
        due("set(0, 20)", 5, x.set(0, 20));
        due("set(0, 1)", 20, x.set(0, 1));
        due("set(1, 999)", 50, x.set(1, 999));
        due("set(1, 1)", 999, x.set(1, 1));
        due("set: settings", "1 1", x.setting(0) + " " + x.setting(1));
        for (int far : FAR) {
            throwing("set(" + far + ", 1)", INDEX, () -> x.set(far, 1));
            throwing("set(0, " + far + ")", ILLEGAL, () -> x.set(0, far));
            throwing("set(1, " + far + ")", ILLEGAL, () -> x.set(1, far));
        }
        throwing("set(2, 0)", INDEX, () -> x.set(2, 0));
        throwing("set(0, 0)", ILLEGAL, () -> x.set(0, 0));
        throwing("set(0, 21)", ILLEGAL, () -> x.set(0, 21));
        throwing("set(1, 0)", ILLEGAL, () -> x.set(1, 0));
        throwing("set(1, 1000)", ILLEGAL, () -> x.set(1, 1000));
    }

    private static void promise9Append() {
        PowerTables x = new PowerTables();
        due("append(33)", 1, x.append(33));
        due("append(126)", 2, x.append(126));
        throwing("append(32)", ILLEGAL, () -> x.append(32));
        throwing("append(127)", ILLEGAL, () -> x.append(127));
        for (int i = 3; i <= 60; i++) {
            due("append: length", i, x.append('c'));
        }
        throwing("append to 60", STATE, () -> x.append('c'));
        throwing("append(32) to 60", ILLEGAL, () -> x.append(32));
        for (int far : FAR) {
            throwing("append(" + far + ")", ILLEGAL, () -> x.append(far));
        }
        due("append: length kept", 60, x.clearBuffer());
        due("append: not undoable", 0, x.count(11));
    }

    private static void promise10ClearBuffer() {
        PowerTables x = States.written("p4;c");
        due("clearBuffer", 4, x.clearBuffer());
        due("clearBuffer again", 0, x.clearBuffer());
        due("clearBuffer: not undoable", 0, x.count(11));
        due("clearBuffer: begins anew", 1, x.append('c'));
        due("clearBuffer: no error", 1, x.firstError());
    }

    private static void firstErrorIs(int want, String text) {
        due("firstError of " + text, want, States.written(text).firstError());
    }

    private static void promise11FirstError() {
        String[] faultless = {
            "", "p", "p1", "p9", "p10", "p19", "p20", "p39", "p40", "s", "s0", "s5", "s00", "s59", "s00+", "s59-",
            "s00+1", "s59-9", "c", "n", "n0", "n9", "c;", "p4;p40;s00+1;c;n0;p", "c;c;c"
        };
        for (String text : faultless) {
            firstErrorIs(text.length(), text);
        }
        String[] faulty = {
            "x", ";", "P", "1", "p0", "p41", "p49", "p50", "p99", "p100", "p400", "p;", "p-", "p1c", "p10c", "p40c",
            "p4c", "p5c", "s6", "s9", "s;", "s0;", "s0+", "s00;", "s001", "s00*", "s00+0", "s00-;", "s00+1;;", "s00+11",
            "cc", "c1", "n;", "nn", "n00", "n1c", "c;;", "c;c,", "p/", "p:", "s/", "s0/", "s0:", "n/", "n:", "s00,",
            "s00.", "s00+:", "s00+/"
        };
        for (String text : faulty) {
            firstErrorIs(text.length() - 1, text);
        }
        firstErrorIs(1, "p0;x;y");
        firstErrorIs(0, "~p1");
        firstErrorIs(60, "c;c;c;c;c;c;c;c;c;c;c;c;c;c;c;c;c;c;c;c;c;c;c;c;c;c;c;c;c;c;");
        firstErrorIs(60, "c;c;c;c;c;c;c;c;c;c;c;c;c;c;c;c;c;c;c;c;c;c;c;c;c;c;c;c;p3;s");
    }

    private static void promise12Obey() {
        PowerTables x = States.begun(1, 3);
        States.write(x, "p3;s12-4;p12;n1;c;s00+9;p1");
        due("obey", 7, x.obey());
        due("obey: rows", 16, x.count(2));
        due("obey: printed", "3 4 5 6 -393 -792", Told.column(x, 1).substring(0, 17));
        due("obey: row 14", -4383, x.row(14, 1));
        due("obey: row 15", 27, x.row(15, 1));
        due("obey: renewed", 0, x.wear(1));
        due("obey: the buffer is cleared", 0, x.clearBuffer());
        due("obey: one state", 2, x.count(11));
        x.undo();
        due("obey: undone as one call", "1 3 0 0 -1 0 0 0 0 0 0 1", Told.counts(x));
        States.write(x, "p40");
        due("obey: p40", 1, x.obey());
        due("obey: 40 rows", 40, x.count(2));
        States.write(x, "c");
        due("obey: c", 1, x.obey());
    }

    private static void promise12ObeyStops() {
        PowerTables x = new PowerTables();
        States.write(x, "p39;p2;c;p1");
        due("obey up to p2", 1, x.obey());
        due("obey: 39 rows", 39, x.count(2));
        due("obey: cleared", 0, x.clearBuffer());
        States.write(x, "p2;p1");
        due("obey: none done", 0, x.obey());
        due("obey: saved if none is done", 2, x.count(11));
        due("obey: still 39 rows", 39, x.count(2));
        x.begin(0, 0);
        States.write(x, "s59+9;s59+9;s59+9;s59+9;s59+9;s59+9");
        due("obey: slips", 6, x.obey());
        States.write(x, "s59+9;s59+9;s59+9;s59+9;s59+9;s59+9;s00+1");
        due("obey up to a slip above", 5, x.obey());
        due("obey: register 5", 99000000000L, x.register(5, false));
        due("obey: register 0", 1, x.register(0, false));
        States.write(x, "s59-1;s00-2");
        due("obey: slips down", 2, x.obey());
        due("obey: register 5 down", 98000000000L, x.register(5, false));
        due("obey: register 0 down", -1, x.register(0, false));
    }

    private static void promise12ObeyIncomplete() {
        String[] texts = {"", "p", "s", "s0", "s00", "s00+", "n", "c;", "x", "p1;", "p1;p", "p1;x", "p0", "p1;;p1"};
        for (String text : texts) {
            PowerTables x = States.written(text);
            throwing("obey of " + text, ILLEGAL, x::obey);
            due("obey of " + text + ": nothing is saved", 0, x.count(11));
            due("obey of " + text + ": nothing is done", 0, x.count(2));
            due("obey of " + text + ": the buffer stays", text.length(), x.clearBuffer());
        }
        String[] complete = {"p1", "p4", "p5", "p12", "p40", "n7", "s00+1", "c", "c;p4"};
        for (String text : complete) {
            due("obey of " + text, text.indexOf(';') < 0 ? 1 : 2, States.written(text).obey());
        }
    }

    private static void promise13Undo() {
        PowerTables x = new PowerTables();
        throwing("undo without states", STATE, x::undo);
        for (int i = 1; i <= 8; i++) {
            x.begin(0, i);
            due("saved states", Math.min(i, 6), x.count(11));
        }
        for (int i = 7; i >= 2; i--) {
            due("undo", i - 2, x.undo());
            due("undo: first", i, x.count(1));
        }
        throwing("undo: the oldest ones are dropped", STATE, x::undo);
        due("undo: stays", 2, x.count(1));
        x.begin(0, 50);
        x.begin(0, 51);
        due("undo after that", 1, x.undo());
        x.begin(0, 52);
        due("undo of a new branch", 1, x.undo());
        due("undo: first of the branch", 50, x.count(1));
    }

    private static void promise13UndoLeavesTheBuffer() {
        PowerTables x = States.begun(3, 4);
        States.write(x, "p2;s00+1;n2;c;p3");
        x.obey();
        due("undo of obey", 1, x.undo());
        due("undo: the orders do not come back", 0, x.clearBuffer());
        x.print(2);
        States.write(x, "zz");
        x.undo();
        due("undo: the buffer stays", 2, x.clearBuffer());
    }

    private static void undoes(String what, java.util.function.Consumer<PowerTables> change) {
        PowerTables x = States.begun(2, 7);
        x.slip(1, 0, 3);
        x.print(4);
        States.write(x, "p1;s10+2;c;n4");
        int states = x.count(11);
        long before = x.digest();
        change.accept(x);
        due("undo of " + what + ": one state", states + 1, x.count(11));
        due("undo of " + what, states, x.undo());
        if (what.equals("obey")) {
            States.write(x, "p1;s10+2;c;n4");
        }
        due("undo of " + what + ": digest", before, x.digest());
    }

    private static void promise13UndoGivesBackRows() {
        PowerTables x = States.begun(1, 3);
        x.set(1, 1);
        x.print(40);
        String rows = Told.column(x, 1) + " / " + Told.column(x, 4);
        x.begin(2, 7);
        x.print(40);
        x.undo();
        due("undo: no rows", 0, x.count(2));
        x.undo();
        due("undo: 40 rows", rows, Told.column(x, 1) + " / " + Told.column(x, 4));
    }

    private static void promise13UndoOfEachMethod() {
        undoes("begin", x -> x.begin(3, 3));
        undoes("print", x -> x.print(5));
        undoes("slip", x -> x.slip(3, 4, 5));
        undoes("slip by 0", x -> x.slip(3, 4, 0));
        undoes("correct", PowerTables::correct);
        undoes("strike", x -> x.strike(2));
        undoes("renew", x -> x.renew(4));
        undoes("renew of a new type", x -> x.renew(3));
        undoes("set 0", x -> x.set(0, 2));
        undoes("set 1", x -> x.set(1, 2));
        undoes("set to the same", x -> x.set(1, 50));
        undoes("obey", PowerTables::obey);
    }

    private static void promise14Row() {
        PowerTables x = States.begun(2, 98);
        x.set(1, 1);
        x.slip(0, 2, -1);
        x.print(3);
        due("row: arguments", "98 99 100", Told.column(x, 0));
        due("row: printed", "9504 9701 9900", Told.column(x, 1));
        due("row: right", "9604 9801 10000", Told.column(x, 2));
        due("row: errors", "-100 -100 -100", Told.column(x, 3));
        due("row: blurs", "0 2 4", Told.column(x, 4));
        for (int far : FAR) {
            throwing("row(" + far + ", 0)", INDEX, () -> x.row(far, 0));
            throwing("row(" + far + ", 5)", INDEX, () -> x.row(far, 5));
            throwing("row(0, " + far + ")", ILLEGAL, () -> x.row(0, far));
        }
        throwing("row(3, 0)", INDEX, () -> x.row(3, 0));
        throwing("row(3, 9)", INDEX, () -> x.row(3, 9));
        throwing("row(0, 5)", ILLEGAL, () -> x.row(0, 5));
    }

    private static void promise15Register() {
        PowerTables x = States.begun(4, 1);
        due("register: right for row 0", "1 15 50 60 24 0", Told.registers(x, true));
        x.slip(4, 0, -4);
        x.print(1);
        due("register: as it is", "16 65 110 80 20 0", Told.registers(x, false));
        due("register: right for row 1", "16 65 110 84 24 0", Told.registers(x, true));
        x.print(39);
        due("register: right for row 40", "2825761 285935 21170 1020 24 0", Told.registers(x, true));
        for (int far : FAR) {
            throwing("register(" + far + ", true)", INDEX, () -> x.register(far, true));
            throwing("register(" + far + ", false)", INDEX, () -> x.register(far, false));
        }
        throwing("register(6, true)", INDEX, () -> x.register(6, true));
        throwing("register(6, false)", INDEX, () -> x.register(6, false));
    }

    private static void promise16Group() {
        PowerTables x = States.begun(1, 1);
        x.set(0, 3);
        x.print(4);
        x.slip(0, 1, 1);
        x.print(4);
        due("group 0", "6 6 0 0", Told.group(x, 0));
        due("group 1", "35 15 1 2", Told.group(x, 1));
        due("group 2, not whole", "0 0 0 0", Told.group(x, 2));
        x.print(1);
        due("group 2, whole", "54 24 1 3", Told.group(x, 2));
        due("group 3", "0 0 0 0", Told.group(x, 3));
        due("far group", "0 0 0 0", Told.group(x, Integer.MAX_VALUE));
        due("group that would turn round", "0 0 0 0", Told.group(x, 1431655766));
        due("groups", "3 2", x.count(5) + " " + x.count(6));
        throwing("group(-1, 0)", ILLEGAL, () -> x.group(-1, 0));
        throwing("group(least, 0)", ILLEGAL, () -> x.group(Integer.MIN_VALUE, 0));
        for (int far : FAR) {
            throwing("group(0, " + far + ")", ILLEGAL, () -> x.group(0, far));
        }
        throwing("group(0, 4)", ILLEGAL, () -> x.group(0, 4));
        throwing("group(9, 4)", ILLEGAL, () -> x.group(9, 4));
    }

    private static void promise16GroupThatCancels() {
        PowerTables x = new PowerTables();
        x.slip(0, 0, 5);
        x.print(1);
        x.correct();
        x.slip(0, 0, -5);
        x.print(1);
        x.set(0, 2);
        due("errors that cancel", "1 1 0 2", Told.group(x, 0));
        due("errors that cancel are not found", "2 1 0", x.count(3) + " " + x.count(5) + " " + x.count(6));
        x.set(0, 1);
        due("errors that do not", "2 2 2", x.count(3) + " " + x.count(5) + " " + x.count(6));
    }

    private static void promise17Difference() {
        PowerTables x = States.begun(5, 0);
        x.slip(0, 0, 1);
        x.print(1);
        x.slip(0, 0, -1);
        x.print(1);
        due("difference(0, 0)", 1, x.difference(0, 0));
        due("difference(0, 1)", 1, x.difference(0, 1));
        due("difference(1, 0)", 0, x.difference(1, 0));
        due("difference(1, 1): rows do not suffice", 0, x.difference(1, 1));
        x.print(4);
        due("difference(2, 0)", 31, x.difference(2, 0));
        due("difference(3, 1)", 390, x.difference(3, 1));
        due("difference(4, 1)", 360, x.difference(4, 1));
        due("difference(5, 0)", 119, x.difference(5, 0));
        due("difference(5, 1)", 0, x.difference(5, 1));
        due("difference(4, 2)", 0, x.difference(4, 2));
        for (int far : FAR) {
            throwing("difference(" + far + ", 6)", ILLEGAL, () -> x.difference(far, 6));
            throwing("difference(0, " + far + ")", INDEX, () -> x.difference(0, far));
        }
        throwing("difference(6, 0)", ILLEGAL, () -> x.difference(6, 0));
        throwing("difference(6, 9)", ILLEGAL, () -> x.difference(6, 9));
        throwing("difference(5, 6)", INDEX, () -> x.difference(5, 6));
    }

    private static void promise18Wear() {
        PowerTables x = States.begun(3, 11);
        x.print(2);
        due("wear of 1331 and 1728", "0 3 1 2 0 0 0 1 1 0", Told.wears(x));
        for (int far : FAR) {
            throwing("wear(" + far + ")", INDEX, () -> x.wear(far));
        }
        throwing("wear(10)", INDEX, () -> x.wear(10));
    }

    private static void promise19Count() {
        PowerTables x = States.begun(1, 8);
        x.set(0, 2);
        x.set(1, 1);
        x.print(3);
        x.slip(1, 0, 1);
        x.print(4);
        due("counts", "1 8 7 3 4 3 1 5 2 12 0 6", Told.counts(x));
        x.strike(5);
        due("counts behind a strike", "1 8 7 2 4 3 1 6 2 14 1 6", Told.counts(x));
        x.undo();
        due("counts behind undo", "1 8 7 3 4 3 1 5 2 12 0 5", Told.counts(x));
        x.begin(0, 0);
        x.renew(1);
        x.print(2);
        x.strike(0);
        due("count(7): the row 0", 2, x.count(7));
        x.print(38);
        due("count(8): behind the row 39, none wrong", 0, x.count(8));
        x.slip(4, 0, 1);
        due("count(8): behind the row 39, one wrong", 1, x.count(8));
        for (int far : FAR) {
            throwing("count(" + far + ")", ILLEGAL, () -> x.count(far));
        }
        throwing("count(12)", ILLEGAL, () -> x.count(12));
    }

    private static void promise20Setting() {
        PowerTables x = new PowerTables();
        x.set(0, 19);
        x.set(1, 77);
        due("setting(0)", 19, x.setting(0));
        due("setting(1)", 77, x.setting(1));
        for (int far : FAR) {
            throwing("setting(" + far + ")", INDEX, () -> x.setting(far));
        }
        throwing("setting(2)", INDEX, () -> x.setting(2));
    }

    private static void promise21Guess() {
        for (int register = 0; register < 6; register++) {
            PowerTables x = States.begun(2, 3);
            x.print(4);
            x.slip(register, 2, -7);
            due("guess ahead of the rows", "-1 0 -1", Told.guess(x));
            x.print(2 * register + 1);
            if (register == 0) {
                due("guess: one wrong row is too few", "-1 0 -1", Told.guess(x));
            }
            x.print(1);
            due("guess of register " + register, register + " -700 4", Told.guess(x));
            x.print(20);
            due("guess of register " + register + ", more rows", register + " -700 4", Told.guess(x));
            x.strike(10);
            due("guess behind a strike", "-1 0 -1", Told.guess(x));
            for (int far : FAR) {
                throwing("guess(" + far + ")", ILLEGAL, () -> x.guess(far));
            }
            throwing("guess(3)", ILLEGAL, () -> x.guess(3));
        }
        throwing("guess(3) of a new object", ILLEGAL, () -> new PowerTables().guess(3));
    }

    private static void promise21GuessEdges() {
        PowerTables x = new PowerTables();
        x.slip(1, 0, 1);
        x.slip(0, 0, 1);
        x.print(2);
        due("guess: errors 1 2", "-1 0 -1", Told.guess(x));
        x.print(1);
        due("guess: below row 0", "1 1 -1", Told.guess(x));
        x.strike(0);
        due("guess: errors 2 3 from row 1", "-1 0 -1", Told.guess(x));
        x.strike(1);
        x.strike(2);
        due("guess: no row is wrong", "-1 0 -1", Told.guess(x));
        x.begin(0, 0);
        x.slip(5, 0, 2);
        x.print(11);
        due("guess: six rows of register 5", "-1 0 -1", Told.guess(x));
        x.print(1);
        due("guess: seven rows of register 5", "5 2 0", Told.guess(x));
        x.begin(0, 0);
        x.slip(0, 0, 1);
        x.slip(1, 0, 2);
        x.slip(2, 0, 4);
        x.slip(3, 0, 8);
        x.slip(4, 0, 3);
        x.slip(5, 0, 6);
        x.print(6);
        due("guess: all slipped, 6 rows", "-1 0 -1", Told.guess(x));
        x.print(1);
        due("guess: all slipped, 7 rows", "5 6 -5", Told.guess(x));
    }

    /** Errors whose differences are the same from one order on, which can be an order above all registers. */
    private static void promise21GuessUpToOrder5() {
        PowerTables fifth = States.begun(0, 0);
        for (int error : new int[] {1, 6, 21, 56, 126, 252, 462}) {
            States.printWrong(fifth, error);
        }
        due("guess: the same 5th differences", "5 1 -5", Told.guess(fifth));
        PowerTables sixth = States.begun(0, 0);
        for (int error : new int[] {1, 7, 28, 84, 210, 462, 924, 1716, 3003}) {
            States.printWrong(sixth, error);
        }
        due("guess: the same 6th differences alone", "-1 0 -1", Told.guess(sixth));
    }

    private static void promise22IfPrinted() {
        PowerTables x = States.begun(1, 8);
        x.set(1, 1);
        due("ifPrinted(1)", "8 0 0", Told.ifPrinted(x, 1));
        due("ifPrinted(4)", "11 2 0", Told.ifPrinted(x, 4));
        x.slip(1, 0, 1);
        due("ifPrinted(4) behind a slip", "14 2 3", Told.ifPrinted(x, 4));
        due("ifPrinted: what printing brings", x.ifPrinted(30, 1), x.print(30));
        due("ifPrinted: the last row", 66, x.row(29, 1));
        due("ifPrinted(40) above 40 rows", "146 102 40", Told.ifPrinted(x, 40));
        due("ifPrinted changes nothing", "68 2 0 0 0 0", Told.registers(x, false));
        for (int far : FAR) {
            throwing("ifPrinted(" + far + ", 0)", ILLEGAL, () -> x.ifPrinted(far, 0));
            throwing("ifPrinted(1, " + far + ")", ILLEGAL, () -> x.ifPrinted(1, far));
        }
        throwing("ifPrinted(0, 0)", ILLEGAL, () -> x.ifPrinted(0, 0));
        throwing("ifPrinted(41, 0)", ILLEGAL, () -> x.ifPrinted(41, 0));
        throwing("ifPrinted(1, 3)", ILLEGAL, () -> x.ifPrinted(1, 3));
    }

    private static void promise23BestGroup() {
        PowerTables x = States.begun(0, 0);
        due("bestGroup without rows", 20, x.bestGroup());
        x.print(3);
        due("bestGroup: no row is wrong", 20, x.bestGroup());
        States.printWrong(x, 1);
        due("bestGroup: the last of 4 rows", 4, x.bestGroup());
        States.printWrong(x, -1);
        due("bestGroup: rows 3 and 4 of 5 cancel", 1, x.bestGroup());
        x.correct();
        x.print(3);
        due("bestGroup: 4 and 4", 4, x.bestGroup());
        x.print(31);
        due("bestGroup of 39 rows", 4, x.bestGroup());
        x.strike(4);
        due("bestGroup: one wrong row", 20, x.bestGroup());
        promise23BestGroupOfTheLastRows();
    }

    private static void promise23BestGroupOfTheLastRows() {
        PowerTables x = States.begun(0, 0);
        x.print(38);
        States.printWrong(x, 2);
        due("bestGroup: the last of 39 rows", 13, x.bestGroup());
        x.correct();
        x.print(1);
        due("bestGroup: within 40 rows", 20, x.bestGroup());
    }

    private static void promise24MostWorn() {
        PowerTables x = States.begun(1, 3);
        due("mostWorn of new types", 0, x.mostWorn());
        x.print(1);
        due("mostWorn: 3", 3, x.mostWorn());
        x.print(2);
        due("mostWorn: the lowest", 3, x.mostWorn());
        x.strike(2);
        due("mostWorn: 5", 5, x.mostWorn());
        x.renew(5);
        due("mostWorn: 3 again", 3, x.mostWorn());
        x.begin(1, 9);
        x.print(1);
        x.strike(0);
        due("mostWorn: 9", 9, x.mostWorn());
        x.begin(0, 0);
        x.print(3);
        due("mostWorn: 1", 1, x.mostWorn());
    }

    private static void promise25Rightness() {
        PowerTables x = States.begun(0, 0);
        due("rightness without rows", 1.0, x.rightness());
        x.set(1, 2);
        x.print(3);
        due("rightness: one of three blurred", 2.0 / 3, x.rightness());
        x.renew(1);
        x.slip(0, 0, 1);
        x.print(4);
        due("rightness: four wrong", 2.0 / 7, x.rightness());
        x.renew(1);
        x.strike(3);
        due("rightness: one struck", 3.0 / 7, x.rightness());
        x.renew(1);
        x.begin(1, 5);
        x.slip(0, 0, 1);
        x.print(2);
        due("rightness: none", 0.0, x.rightness());
        x.begin(1, 3);
        x.print(2);
        due("rightness: all", 1.0, x.rightness());
    }

    private static void promise26Digest() {
        PowerTables x = new PowerTables();
        due("digest of a new object", Long.valueOf(Told.hashOf(x)), x.digest());
        States.write(x, "p7;");
        due("digest with a buffer", Long.valueOf(Told.hashOf(x, 'p', '7', ';')), x.digest());
        x.clearBuffer();
        x.set(0, 4);
        x.set(1, 6);
        x.print(3);
        due("digest of 3 rows", Long.valueOf(Told.hashOf(x)), x.digest());
        x.slip(1, 3, -2);
        x.print(10);
        x.strike(5);
        due("digest of 13 rows", Long.valueOf(Told.hashOf(x)), x.digest());
        promise26DigestOfShares();
        x.begin(1, 7);
        x.slip(0, 0, 1);
        x.print(2);
        due("digest with rightness 0", Long.valueOf(Told.hashOf(x)), x.digest());
    }

    private static void promise26DigestOfShares() {
        for (int rows = 1; rows <= 40; rows++) {
            for (int clear = 1; clear <= rows; clear++) {
                PowerTables x = States.begun(0, 0);
                x.set(1, clear);
                x.print(rows);
                due("rightness of " + clear + " in " + rows, (double) clear / rows, x.rightness());
                due("digest of " + clear + " in " + rows, Long.valueOf(Told.hashOf(x)), x.digest());
            }
        }
    }

    // ---- what holds for many

    private static void looksChangeNothing() {
        PowerTables x = States.begun(4, 6);
        x.slip(2, 3, 4);
        x.print(11);
        States.write(x, "p3;q");
        long before = x.digest();
        for (int i = 0; i < 12; i++) {
            x.count(i);
        }
        x.row(3, 3);
        Told.registers(x, true);
        Told.group(x, 1);
        x.difference(5, 2);
        Told.guess(x);
        Told.ifPrinted(x, 40);
        x.bestGroup();
        x.mostWorn();
        x.rightness();
        x.firstError();
        due("looks change nothing", before, x.digest());
    }

    private static void exceptionsChangeNothing() {
        PowerTables x = new PowerTables();
        x.slip(4, 9, 9);
        x.print(40);
        States.write(x, "p3;");
        long before = x.digest();
        Checks.Call[] calls = {
            () -> x.begin(6, 0), () -> x.begin(0, 100), () -> x.print(0), () -> x.print(1), () -> x.slip(6, 0, 0),
            () -> x.slip(0, 10, 0), () -> x.slip(0, 0, 10), () -> x.slip(0, 0, 1), () -> x.strike(40),
            () -> x.renew(10), () -> x.set(2, 1), () -> x.set(0, 21), () -> x.set(1, 1000), () -> x.append(32),
            x::obey, () -> x.row(40, 0), () -> x.row(0, 5), () -> x.register(6, true), () -> x.group(-1, 0),
            () -> x.difference(6, 0), () -> x.difference(0, 40), () -> x.wear(10), () -> x.count(12),
            () -> x.setting(2), () -> x.guess(3), () -> x.ifPrinted(41, 0)
        };
        for (int i = 0; i < calls.length; i++) {
            due("call " + i + " throws", true, Checks.answerOf(calls[i]).startsWith("throws "));
            due("call " + i + " that throws changes nothing", before, x.digest());
        }
    }
}
