import java.util.TreeSet;

/** The boundary cases of promises 1 to 7 and 11 to 13, a sentence each, with the Terms that they speak of. */
public final class EdgeCallsTest {
    private static final int LEAST = Integer.MIN_VALUE, MOST = Integer.MAX_VALUE;
    /** Numbers that wrap round to something small if a limit is looked at carelessly. */
    private static final int[] FAR = {LEAST, LEAST + 1, LEAST + 16, LEAST + 80, -65536, 1 << 16, 1 << 30, MOST - 1, MOST};

    public static void main(String[] args) {
        calls512();
        twoObjects();
        firstClasses();
        clsRefused();
        clsFull();
        belowItself();
        typesThatAreThere();
        goesAtItsLimits();
        joinedAtItsLimits();
        fresh();
        beginRefusesResults();
        beginRefusesSizes();
        beginEmpties();
        argumentRefused();
        argumentFull();
        addRefused();
        addFull();
        changeRefused();
        changeAnswersTheOpBefore();
        handlerTakesAll();
        handlerFull();
        countRefused();
        countsAtTheirLimits();
        Script.end();
    }

    /** "An object is used for at most 512 calls": the 512th still has its answer. */
    private static void calls512() {
        Script s = new Script("512 calls");
        FlowGate x = s.gate;
        for (int c = 2; c < 10; c++) s.due("cls", x.cls(c - 1, false), c);
        s.due("begin", x.begin(0, 12, 12), 1);
        for (int k = 0; k < 47; k++) s.due("add", x.add(0, 0, 0), k);
        s.due("add", x.add(18, 0, 0), 47);
        int calls = 57;
        for (; calls < 511; calls++) s.due("verify " + calls, x.verify(), 0);
        s.due("the 512th", x.count(6), 511 - 57);
    }

    /** What one object is told is nothing to another one. */
    private static void twoObjects() {
        Script s = new Script("one object");
        Script t = new Script("another object");
        s.due("cls", s.gate.cls(0, true), 2).begin(1, 1, 1, 1).code("LOAD 0; GIVE").handler(0, 1, 1, 1);
        t.count(0, 2).count(1, 0).count(2, 0).count(3, 0).verify(1, 0).code("GIVE").passes();
        s.count(6, 0).state(0, 32, -1).verify(2, 1).stack(1, 0);
        t.count(4, 1).count(6, 1).stack(0).due("place()", t.gate.place(), -1);
        s.due("place()", s.gate.place(), 1);
    }

    /** "0 OBJECT, without a SUPER, and 1 THROWN, with SUPER 0, are there", neither an INTERFACE. */
    private static void firstClasses() {
        Script s = new Script("CLASSES 0 and 1");
        FlowGate x = s.gate;
        s.count(0, 2);
        s.due("OBJECT for THROWN", x.goes(16, 17), 0).due("THROWN for OBJECT", x.goes(17, 16), 1);
        s.due("no CLASS 2", x.goes(18, 16), -1);
        s.due("cls", x.cls(1, false), 2).due("cls", x.cls(0, false), 3);
        s.due("THROWN is no INTERFACE", x.goes(19, 17), 0).due("below THROWN", x.goes(18, 17), 1);
        s.due("JOINED at THROWN", x.join(18, 17), 17).due("JOINED at OBJECT", x.join(18, 19), 16);
    }

    /** "a new one has a SUPER that is there"; "REFUSED if above is none". */
    private static void clsRefused() {
        Script s = new Script("cls REFUSED");
        for (int there = 2; there < 10; there++) {
            for (int above : FAR) s.due("cls(" + above + ")", s.gate.cls(above, false), -1);
            s.due("above is the new one", s.gate.cls(there, false), -1);
            s.due("above is behind the new one", s.gate.cls(there + 1, true), -1);
            s.due("above -1", s.gate.cls(-1, true), -1);
            s.count(0, there).due("above is the last one", s.gate.cls(there - 1, false), there);
        }
        s.due("nine steps up", s.gate.goes(25, 16), 1).due("and to the first below OBJECT", s.gate.join(25, 17), 17);
    }

    /** "CLASSES 0..9"; "FULL if there are ten". */
    private static void clsFull() {
        Script s = new Script("cls FULL");
        for (int c = 2; c < 10; c++) s.due("cls", s.gate.cls(0, c == 9), c);
        for (int above = 0; above < 10; above++) s.due("an eleventh", s.gate.cls(above, above % 2 == 0), -2);
        s.due("an eleventh under none", s.gate.cls(10, false), -1).due("and under -1", s.gate.cls(-1, false), -1);
        s.count(0, 10).due("no CLASS 10", s.gate.join(26, 26), -1);
        s.due("CLASS 9 is as it was", s.gate.goes(16, 25), 1).due("CLASS 8, too", s.gate.goes(16, 24), 0);
        s.begin(0, 0, 0);
        s.count(0, 10).due("begin() makes no room", s.gate.cls(0, false), -2);
    }

    /** "c is BELOW d if c is d, or the SUPER of c is BELOW d": from itself to OBJECT, but not downwards. */
    private static void belowItself() {
        Script s = new Script("BELOW");
        for (int c = 2; c < 10; c++) s.due("cls", s.gate.cls(c - 1, false), c);
        for (int c = 0; c < 10; c++) {
            s.due("itself", s.gate.goes(16 + c, 16 + c), 1).due("OBJECT", s.gate.goes(16 + c, 16), 1);
            s.due("the last one", s.gate.goes(25, 16 + c), 1).due("up from it", s.gate.goes(16 + c, 25), c == 9 ? 1 : 0);
        }
    }

    private static TreeSet<Integer> refs(int classes) {
        TreeSet<Integer> refs = new TreeSet<>();
        for (int dimensions = 0; dimensions <= 3; dimensions++) {
            if (dimensions > 0) refs.add(64 * dimensions + 12);
            for (int c = 0; c < classes; c++) refs.add(64 * dimensions + 16 + c);
        }
        return refs;
    }

    private static Script withClasses(String name, int classes) {
        Script s = new Script(name + " with " + classes + " CLASSES");
        for (int c = 2; c < classes; c++) s.due("cls", s.gate.cls(0, false), c);
        return s;
    }

    /** All TYPES round the limits of 0..5, CLASSES and DIMENSIONS 1..3: promises 3, 4, 11 and 12 take no others. */
    private static void typesThatAreThere() {
        for (int classes : new int[] {2, 3, 9, 10}) {
            TreeSet<Integer> refs = refs(classes);
            Script s = withClasses("TYPES", classes);
            int calls = classes;
            for (int t = -140; t <= 420; t++) {
                if (calls > 480) {
                    s = withClasses("TYPES", classes);
                    calls = classes;
                }
                type(s, t, refs.contains(t));
                calls += 9;
            }
            s = withClasses("far TYPES", classes);
            for (int t : FAR) type(s, t, false);
            for (int t : new int[] {999, 1000, 1001, 1016, 1047, 1048, 1999, 2000, 2016, 2047, 2048}) type(s, t, false);
        }
    }

    private static void type(Script s, int t, boolean isRef) {
        FlowGate x = s.gate;
        boolean plain = isRef || t >= 0 && t <= 5;
        boolean value = isRef || t >= 1 && t <= 4;
        s.due("join of " + t, x.join(t, t), plain ? t : -1);
        s.due("join with " + t, x.join(5, t), !plain ? -1 : isRef || t == 5 ? t : 0);
        s.due("join of it, " + t, x.join(t, 5), !plain ? -1 : isRef || t == 5 ? t : 0);
        s.due("goes of " + t, x.goes(t, t), plain ? 1 : -1);
        s.due("goes for " + t, x.goes(5, t), !plain ? -1 : isRef || t == 5 ? 1 : 0);
        s.due("goes for 16 of " + t, x.goes(t, 16), !plain ? -1 : isRef || t == 5 ? 1 : 0);
        s.due("begin with " + t, x.begin(t, 0, 0), value || t == 0 ? 1 : -1);
        s.due("begin", x.begin(0, 0, 0), 1).due("argument " + t, x.argument(t), value ? 1 : -1);
    }

    /** GOES FOR, where DIMENSIONS run out: "both have DIMENSIONS, and, when both lose one, .. both being REFS". */
    private static void goesAtItsLimits() {
        Script s = new Script("GOES FOR");
        s.due("cls", s.gate.cls(0, true), 2).due("cls", s.gate.cls(0, false), 3);
        for (int d = 1; d <= 3; d++) {
            int ints = 64 * d + 12;
            int objects = 64 * d + 16;
            s.goes(ints, objects, 0).goes(objects, ints, 0);
            s.goes(ints, objects - 64, 1).goes(objects - 64, ints, 0);
            s.goes(objects + 3, objects, 1).goes(objects, objects + 3, 0);
            s.goes(objects, objects + 2, 1).goes(objects + 2, objects + 3, 0);
            s.goes(ints, objects + 2, 0).goes(objects + 2, ints, 0);
            s.goes(objects + 3, objects - 64 + 3, 0).goes(objects - 64 + 3, objects + 3, 0);
            // An INTERFACE is gone for by CLASSES, not by what has DIMENSIONS.
            s.goes(objects, objects - 64 + 2, 0).goes(ints, objects - 64 + 2, 0);
            s.goes(objects, objects - 64, 1).goes(objects - 64, objects, 0);
            s.goes(5, objects, 1).goes(5, ints, 1);
        }
        s.goes(204, 80, 1).goes(204, 144, 1);
        s.goes(204, 76, 0).goes(76, 204, 0);
        for (int t = 0; t <= 4; t++) s.goes(5, t, 0).goes(t, 5, 0);
    }

    /** JOINED, where DIMENSIONS run out: "with n the lesser number (one less for one of ints with that number)". */
    private static void joinedAtItsLimits() {
        Script s = new Script("JOINED");
        s.due("cls", s.gate.cls(0, true), 2).due("cls", s.gate.cls(0, false), 3);
        for (int d = 1; d <= 3; d++) {
            int less = 64 * (d - 1) + 16;
            for (int e = d; e <= 3; e++) {
                if (e > d) s.join(64 * d + 12, 64 * e + 12, less);
                s.join(64 * d + 12, 64 * e + 16, less);
                s.join(64 * d + 12, 64 * e + 19, less);
                if (e > d) s.join(64 * d + 16, 64 * e + 12, 64 * d + 16);
                if (e > d) s.join(64 * d + 19, 64 * e + 19, 64 * d + 16);
                s.join(64 * d + 18, 64 * e + 19, 64 * d + 16);
            }
            s.join(64 * d + 12, 19, 16);
            s.join(64 * d + 19, 19, 16);
            s.join(64 * d + 19, 18, 16);
            s.join(64 * d + 12, 0, 0);
            s.join(64 * d + 12, 5, 64 * d + 12);
        }
        s.join(18, 19, 16);
        s.join(18, 18, 18);
        s.join(82, 82, 82);
        s.join(18, 5, 18);
        for (int t = 1; t <= 4; t++) {
            s.join(t, 5, 0);
            s.join(t, 16, 0);
        }
    }

    /** "no INSTRUCTIONS, HANDLERS, ARGUMENTS; RESULT, LOCALS and STACK 0". */
    private static void fresh() {
        Script s = new Script("a new object");
        for (int what = 1; what <= 7; what++) s.count(what, 0);
        s.due("place()", s.gate.place(), -1).state(0, 32, -1).due("change", s.gate.change(0, 0, 0, 0), -1);
        s.verify(1, 0);
        new Script("RESULT 0").code("GIVE").passes();
        new Script("LOCALS 0").code("GIVE; ADD 0").verify(1, 1);
        Script t = new Script("LOCALS 0, with an ARGUMENT");
        t.due("argument", t.gate.argument(1), 1);
        t.code("GIVE").verify(1, 200);
        new Script("STACK 0").code("PUSH 1").verify(3, 0);
    }

    /** "REFUSED if result is neither 0..4 nor a REF (its CLASS must be there)", and all stays as it was. */
    private static void beginRefusesResults() {
        Script s = new Script("begin REFUSED");
        s.begin(16, 1, 1, 17).code("LOAD 0; GIVE").handler(0, 1, 1, 1);
        for (int result : new int[] {-1, 5, 6, 12, 15, 18, 76 - 1, 76 + 1, 79, 82, 146, 210, 256, 268, 272, 1000, 2000}) {
            s.due("begin(" + result + ")", s.gate.begin(result, 0, 0), -1);
        }
        for (int result : FAR) s.due("begin(" + result + ")", s.gate.begin(result, 0, 0), -1);
        s.count(1, 2).count(2, 1).count(3, 1).passes().stack(1, 17);
        s.due("cls", s.gate.cls(0, false), 2);
        for (int result : new int[] {18, 82, 146, 210}) s.due("begin(" + result + ")", s.gate.begin(result, 0, 0), 1);
        for (int result : new int[] {19, 83, 147, 211}) s.due("begin(" + result + ")", s.gate.begin(result, 0, 0), -1);
    }

    /** "REFUSED .. if locals or stack not 0..12". */
    private static void beginRefusesSizes() {
        Script s = new Script("begin's LOCALS and STACK");
        for (int n = -1; n <= 13; n++) {
            int want = n >= 0 && n <= 12 ? 1 : -1;
            s.due("LOCALS " + n, s.gate.begin(0, n, 0), want).due("STACK " + n, s.gate.begin(0, 0, n), want);
            s.due("both " + n, s.gate.begin(0, n, n), want);
            s.due("LOCALS " + n + ", STACK 12", s.gate.begin(0, n, 12), want);
            s.due("LOCALS 12, STACK " + n, s.gate.begin(0, 12, n), want);
        }
        for (int n : FAR) {
            s.due("LOCALS " + n, s.gate.begin(0, n, 0), -1).due("STACK " + n, s.gate.begin(0, 0, n), -1);
        }
        // As many are there as were told, and no more.
        for (int n = 1; n <= 12; n++) {
            s.begin(0, n, n).code("PUSH 1; STORE " + (n - 1) + "; GIVE").passes().state(2, n - 1, 1);
            s.begin(0, n, 1).code("GIVE; LOAD " + n).verify(1, 1);
        }
    }

    /** "THE METHOD is another one, without ARGUMENTS, INSTRUCTIONS and HANDLERS". */
    private static void beginEmpties() {
        Script s = new Script("begin empties");
        s.begin(1, 12, 12, 1, 1, 1, 1, 1, 1).handler(0, 48, 0, 1).handler(0, 48, 0, 1).handler(0, 48, 0, 1);
        for (int k = 0; k < 48; k++) s.code("NOP");
        s.due("full", s.gate.argument(1), -2).due("full", s.gate.handler(0, 1, 0, 1), -2);
        s.due("full", s.gate.add(0, 0, 0), -2).due("begin", s.gate.begin(0, 0, 0), 1);
        s.count(1, 0).count(2, 0).count(3, 0).due("no INSTRUCTION", s.gate.change(0, 0, 0, 0), -1).verify(1, 0);
        s.due("first", s.gate.argument(1), 1).due("first", s.gate.handler(0, 1, 0, 1), 1);
        s.due("first", s.gate.add(18, 0, 0), 0);
        s.verify(1, 200);
        s.begin(0, 0, 0).code("GIVE").passes().locals(0).stack(0);
    }

    /** "REFUSED if type is neither 1..4 nor a REF", and no ARGUMENT is there for it. */
    private static void argumentRefused() {
        Script s = new Script("argument REFUSED");
        s.begin(0, 12, 0);
        for (int type : new int[] {-1, 0, 5, 6, 11, 12, 15, 18, 26, 63, 64, 75, 82, 203, 256, 268, 1000, 2000}) {
            s.due("argument(" + type + ")", s.gate.argument(type), -1);
        }
        for (int type : FAR) s.due("argument(" + type + ")", s.gate.argument(type), -1);
        s.count(3, 0).code("GIVE").passes().locals(0);
        int[] least = {1, 4, 16, 17, 76, 209};
        for (int i = 0; i < 6; i++) s.due("argument(" + least[i] + ")", s.gate.argument(least[i]), i + 1);
        s.passes().locals(0, 1, 4, 0, 16, 17, 76, 209);
    }

    /** "FULL if there are 6", however few LOCALS there are. */
    private static void argumentFull() {
        Script s = new Script("argument FULL");
        s.begin(0, 5, 0, 1, 1, 1, 1, 1).code("GIVE").passes();
        s.due("a sixth", s.gate.argument(2), 6).verify(1, 200);
        for (int type : new int[] {1, 4, 16, 76}) s.due("a seventh", s.gate.argument(type), -2);
        s.due("a seventh that is none", s.gate.argument(5), -1).count(3, 6);
        s.begin(0, 6, 0, 1, 1, 1, 1, 1, 2);
        s.due("a seventh", s.gate.argument(16), -2).code("GIVE").passes().locals(0, 1, 1, 1, 1, 1, 2);
    }

    /** "REFUSED if op is not 0..30", whatever a and b are. */
    private static void addRefused() {
        Script s = new Script("add REFUSED");
        for (int op : new int[] {-1, -2, 31, 32, 64, 256}) s.due("add(" + op + ")", s.gate.add(op, 0, 0), -1);
        for (int op : FAR) s.due("add(" + op + ")", s.gate.add(op, 0, 0), -1);
        s.count(1, 0).due("add(0)", s.gate.add(0, LEAST, MOST), 0).due("add(30)", s.gate.add(30, MOST, LEAST), 1);
        s.count(1, 2);
        s.verify(1, 1);
    }

    /** "INSTRUCTIONS 0..47"; "FULL if there are 48". */
    private static void addFull() {
        Script s = new Script("add FULL");
        for (int k = 0; k < 48; k++) s.due("add", s.gate.add(k % 31, 0, 0), k).count(1, k + 1);
        for (int op = 0; op <= 30; op++) s.due("a 49th", s.gate.add(op, 0, 0), -2);
        s.due("a 49th that is none", s.gate.add(31, 0, 0), -1).due("and -1", s.gate.add(-1, 0, 0), -1).count(1, 48);
        for (int k = 0; k < 48; k++) s.due("its op", s.gate.change(k, 0, 0, 0), k % 31);
        s.verify(5, 47).count(4, 48);
    }

    /** "REFUSED if there is none, or op is not 0..30", and the INSTRUCTION stays as it was. */
    private static void changeRefused() {
        Script s = new Script("change REFUSED");
        s.due("none yet", s.gate.change(0, 0, 0, 0), -1).code("NOP; GIVE");
        for (int k : new int[] {-1, 2, 3, 47, 48}) s.due("change " + k, s.gate.change(k, 18, 0, 0), -1);
        for (int k : FAR) s.due("change " + k, s.gate.change(k, 18, 0, 0), -1);
        for (int op : new int[] {-1, 31, 32}) s.due("change to " + op, s.gate.change(1, op, 0, 0), -1);
        for (int op : FAR) s.due("change to " + op, s.gate.change(0, op, 0, 0), -1);
        s.due("neither", s.gate.change(2, 31, 0, 0), -1).count(1, 2).passes().count(4, 2);
    }

    /** "INSTRUCTION k is another one: its op before": the first, the last, and each op 0..30. */
    private static void changeAnswersTheOpBefore() {
        Script s = new Script("change");
        for (int k = 0; k < 48; k++) s.code("NOP");
        s.due("the last", s.gate.change(47, 18, 0, 0), 0).due("the first", s.gate.change(0, 14, 0, 47), 0);
        s.passes().count(4, 2).count(5, 2).stack(47).state(1, 32, -1);
        for (int op = 0; op <= 30; op++) s.due("to " + op, s.gate.change(20, op, 0, 0), op == 0 ? 0 : op - 1);
        s.due("to the same", s.gate.change(20, 30, 0, 0), 30).count(1, 48).verify(1, 20);
        s.due("to what is right", s.gate.change(20, 0, -1, -1), 30).passes();
    }

    /** A HANDLER is REFUSED for nothing: what is wrong with it is a FAULT of FORM. */
    private static void handlerTakesAll() {
        for (int n : FAR) {
            Script s = new Script("handler " + n);
            s.code("GIVE");
            s.due("handler", s.gate.handler(n, n, n, n), 1).verify(1, 100);
        }
        Script s = new Script("handler without INSTRUCTIONS");
        s.due("handler", s.gate.handler(0, 0, 0, 0), 1).count(2, 1).verify(1, 0);
    }

    /** "up to 3 HANDLERS"; "FULL if there are 3", whatever the fourth is. */
    private static void handlerFull() {
        Script s = new Script("handler FULL");
        s.begin(0, 0, 1).code("NOP; GIVE; THROW; THROW; THROW");
        for (int h = 0; h < 3; h++) s.due("handler", s.gate.handler(0, 1, 2 + h, 1), h + 1).count(2, h + 1);
        s.due("a fourth", s.gate.handler(0, 1, 2, 1), -2).due("a wrong fourth", s.gate.handler(-1, -1, -1, -1), -2);
        s.count(2, 3).passes().stack(2, 17).stack(3, 17).stack(4, 17);
    }

    /** "REFUSED for others" than 0..7. */
    private static void countRefused() {
        Script s = new Script("count REFUSED");
        for (int what : new int[] {-1, -2, 8, 9, 16, 32}) s.count(what, -1);
        for (int what : FAR) s.count(what, -1);
        for (int what = 1; what <= 7; what++) s.count(what, 0);
    }

    /** Promise 13 where all is as full as it gets, and where it is empty again. */
    private static void countsAtTheirLimits() {
        Script s = new Script("counts");
        for (int c = 2; c < 10; c++) s.due("cls", s.gate.cls(0, false), c);
        s.begin(0, 6, 1, 1, 1, 1, 1, 1, 1).handler(47, 48, 47, 1).handler(47, 48, 47, 1).handler(47, 48, 47, 1);
        // 23 SUBROUTINES, each of which is left for the next one without a RET.
        for (int k = 0; k < 46; k += 2) s.code("SUB " + (k + 1) + "; POP");
        s.code("PUSH 5; THROW").passes();
        s.count(0, 10).count(1, 48).count(2, 3).count(3, 6).count(4, 49).count(5, 48).count(6, 1).count(7, 23);
        s.state(47, 33, 23).stack(47, 17);
        s.begin(0, 0, 0).count(0, 10).count(1, 0).count(2, 0).count(3, 0).count(4, 49).count(5, 48).count(6, 1).count(7, 23);
        s.verify(1, 0).count(4, 0).count(5, 0).count(6, 1).count(7, 0);
        s.code("GIVE").passes().count(4, 1).count(5, 1).count(6, 2).count(7, 0);
    }
}
