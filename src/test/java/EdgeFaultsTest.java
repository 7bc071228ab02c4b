/** The boundary cases of promises 8, 9 and 14: each FAULT at its limits, its place, and which one comes first. */
public final class EdgeFaultsTest {
    private static final int LEAST = Integer.MIN_VALUE, MOST = Integer.MAX_VALUE;
    private static final int[] FAR = {LEAST, LEAST + 1, -65536, -64, 1 << 16, 1 << 30, MOST - 1, MOST};
    /** The ops of which a alone is looked at, and those of which neither is. */
    private static final String[] ONLY_A = {"PUSH", "LOAD", "STORE", "MATH", "COMPARE", "RET", "NEW", "BUILD", "CAST", "ROW",
        "AT", "PUT", "ADD"};
    private static final String[] NEITHER = {"NOP", "POP", "DUP", "OVER", "SWAP", "DUP2", "GIVE", "THROW", "SIZE"};

    public static void main(String[] args) {
        noInstruction();
        firstWrongNumber();
        farNumbers();
        noLocals();
        lastLocal();
        lastClass();
        onlyGoal();
        lastGoal();
        dimensions();
        castNeedsARef();
        handlerForm();
        handlerClass();
        handlersInOrder();
        argumentsLast();
        formBeforeAll();
        needsAreOneShort();
        needsOfLocals();
        noRoom();
        meetPlace();
        meetFewerOrMore();
        end();
        noEnd();
        again();
        back();
        rawToItself();
        rawEverywhere();
        rawAtHandlers();
        goingInOrder();
        handlerInOrder();
        subInOrder();
        retInOrder();
        handlersBeforeTheInstruction();
        placeWithout();
        Script.end();
    }

    private static void change(Script s, int k, String op, int a, int b) {
        s.due("change", s.gate.change(k, Script.op(op), a, b) >= 0 ? 1 : 0, 1);
    }

    /** "there is no INSTRUCTION": place 0, whatever is wrong besides. */
    private static void noInstruction() {
        new Script("none at all").verify(1, 0).count(4, 0);
        Script s = new Script("none, but more that is wrong");
        s.begin(0, 0, 0, 3).handler(-1, -1, -1, -1).verify(1, 0);
        s.code("GIVE").verify(1, 100);
        s.begin(0, 0, 0, 3).code("GIVE").verify(1, 200);
    }

    /** "by numbers, a number of one is not as said": the least of those is the place, 0 and 47 among them. */
    private static void firstWrongNumber() {
        Script s = new Script("the first wrong number");
        for (int k = 0; k < 48; k++) s.due("add", s.gate.add(Script.op("PUSH"), 6, 0), k);
        s.verify(1, 0);
        for (int k = 0; k < 48; k++) {
            change(s, k, k == 0 ? "GIVE" : "NOP", 6, 0);
            if (k < 47) s.verify(1, k + 1);
        }
        s.passes().count(6, 1);
        change(s, 47, "GO", 0, 48);
        s.verify(1, 47).count(4, 0).count(5, 0).count(6, 1).state(0, 32, -1);
    }

    /** One INSTRUCTION behind a GIVE, so that nothing but its FORM is looked at. */
    private static void form(Script s, boolean right, String op, int a, int b) {
        s.begin(0, 12, 12).code("GIVE");
        s.due(op + " " + a + " " + b, s.gate.add(Script.op(op), a, b), 1);
        if (right) s.passes();
        else s.verify(1, 1);
    }

    /** Numbers so far out that they may wrap round are wrong where they are looked at, and alone there. */
    private static void farNumbers() {
        for (int n : FAR) {
            Script s = new Script("far numbers " + n);
            for (String op : ONLY_A) form(s, false, op, n, 1);
            for (String op : new String[] {"CHANGE", "CHOOSE", "GET", "SET", "CALL"}) {
                form(s, false, op, n, 1);
                form(s, false, op, 1, n);
            }
            for (String op : new String[] {"IF", "IFREF", "GO", "SUB"}) {
                form(s, false, op, 1, n);
                form(s, true, op, n, 1);
            }
            for (String op : NEITHER) form(s, true, op, n, n);
            form(s, true, "PUSH", 1, n);
            form(s, true, "ADD", 1, n);
        }
    }

    /** "names none (of .. LOCALS)": with LOCALS 0 there is not even LOCAL 0. */
    private static void noLocals() {
        Script s = new Script("LOCALS 0");
        for (String op : new String[] {"LOAD", "STORE", "RET", "ADD"}) {
            s.begin(0, 0, 12).code("GIVE; " + op + " 0").verify(1, 1);
            s.begin(0, 1, 12).code("GIVE; " + op + " 0").passes();
        }
    }

    private static void lastLocal() {
        for (int locals = 1; locals <= 12; locals++) {
            Script s = new Script(locals + " LOCALS");
            for (String op : new String[] {"LOAD", "STORE", "RET", "ADD"}) {
                s.begin(0, locals, 12).code("GIVE; " + op + " " + (locals - 1)).passes();
                s.begin(0, locals, 12).code("GIVE; " + op + " " + locals).verify(1, 1);
                s.begin(0, locals, 12).code("GIVE; " + op + " -1").verify(1, 1);
            }
        }
    }

    /** "names none (of .. CLASSES)": as many as there are when it is VERIFIED. */
    private static void lastClass() {
        Script s = new Script("CLASSES");
        for (int there = 2; there <= 10; there++) {
            for (String op : new String[] {"NEW", "BUILD"}) {
                form(s, true, op, there - 1, -1);
                form(s, false, op, there, -1);
            }
            form(s, false, "GET", there, 1);
            form(s, false, "CAST", 16 + there, 0);
            form(s, false, "ROW", 16 + there, 0);
            form(s, false, "AT", 80 + there, 0);
            form(s, true, "CALL", 15 + there, 207 + there);
            if (there < 10) s.due("cls", s.gate.cls(0, false), there);
        }
        Script later = new Script("a CLASS that comes later");
        later.begin(0, 0, 1).code("NEW 2; GIVE").verify(1, 0).due("cls", later.gate.cls(0, false), 2).passes();
    }

    /** "names none (of goals ..)": with one INSTRUCTION, 0 is the only goal. */
    private static void onlyGoal() {
        for (String op : new String[] {"IF", "IFREF", "GO", "SUB"}) {
            for (int goal = -1; goal <= 1; goal++) {
                Script s = new Script(op + " " + goal + " alone");
                s.begin(0, 1, 1).code(op + " " + goal);
                if (goal != 0) s.verify(1, 0);
                else if (op.equals("GO")) s.passes().count(4, 1);
                else s.verify(op.equals("SUB") ? 4 : 2, 0);
            }
        }
    }

    private static void lastGoal() {
        for (int goal = 46; goal <= 48; goal++) {
            Script s = new Script("goal " + goal + " of 48");
            s.begin(0, 0, 1).code("GO " + goal);
            for (int k = 1; k < 48; k++) s.code("GIVE");
            if (goal < 48) s.passes().stack(goal).count(5, 2);
            else s.verify(1, 0);
            change(s, 0, "CHOOSE", goal, 1);
            s.verify(goal < 48 ? 2 : 1, 0);
            change(s, 0, "CHOOSE", 1, goal);
            s.verify(goal < 48 ? 2 : 1, 0);
            change(s, 0, "SUB", 48, goal);
            s.verify(goal < 48 ? 0 : 1, goal < 48 ? -1 : 0);
        }
    }

    /** "d 1..3 DIMENSIONS": ROW takes less than 3, AT and PUT take 1 to 3, and there are never 4. */
    private static void dimensions() {
        Script s = new Script("DIMENSIONS");
        for (int d = 0; d <= 4; d++) {
            for (int base : new int[] {12, 16, 17}) {
                int t = 64 * d + base;
                form(s, d < 3, "ROW", t, 0);
                form(s, d >= 1 && d <= 3, "AT", t, 0);
                form(s, d >= 1 && d <= 3, "PUT", t, 0);
                form(s, d <= 3 && (d > 0 || base > 12), "CAST", t, 0);
            }
        }
        s.begin(0, 0, 2).code("PUSH 1; ROW 140; PUSH 1; AT 204; PUSH 1; AT 140; PUSH 1; AT 76; GIVE").passes();
        s.stack(2, 204).stack(4, 140).stack(6, 76).stack(8, 1);
        s.begin(0, 0, 2).code("PUSH 1; ROW 144; PUSH 1; AT 208; PUSH 1; AT 144; PUSH 1; AT 80; GIVE").passes();
        s.stack(2, 208).stack(4, 144).stack(6, 80).stack(8, 16);
    }

    /** Promise 14: "CAST t (25): t is a REF, else FORM", NULL and numbers being none. */
    private static void castNeedsARef() {
        Script s = new Script("CAST");
        for (int t = -1; t <= 19; t++) form(s, t == 16 || t == 17, "CAST", t, 16);
        for (int t : new int[] {76, 80, 81, 140, 144, 145, 204, 208, 209}) form(s, true, "CAST", t, -1);
        Script raw = new Script("CAST to RAW or RETURN");
        for (int t : new int[] {1000, 1001, 2000, 2001, 256 + 12, 256 + 16}) form(raw, false, "CAST", t, 16);
        // FORM it is where what it takes is not there either, and where nothing goes to it.
        raw.begin(0, 0, 0).code("CAST 5; GIVE").verify(1, 0).begin(0, 0, 0).code("CAST 16; GIVE").verify(2, 0);
    }

    private static void handlerIs(boolean right, int size, int from, int to, int at) {
        Script s = new Script("handler " + from + " " + to + " " + at + " of " + size);
        s.begin(0, 0, 1);
        for (int k = 1; k < size; k++) s.code("GIVE");
        s.code("GIVE").handler(from, to, at, 1);
        if (!right) s.verify(1, 100).count(4, 0);
        else s.due("no FORM", s.gate.verify() == 1 ? 1 : 0, 0);
    }

    /** "not 0 <= FROM < TO <= how many there are, AT is none". */
    private static void handlerForm() {
        for (int size : new int[] {1, 2, 47, 48}) {
            int last = size - 1;
            handlerIs(true, size, 0, size, last);
            handlerIs(true, size, last, size, last);
            handlerIs(true, size, 0, 1, 0);
            handlerIs(false, size, -1, size, last);
            handlerIs(false, size, 0, size + 1, last);
            handlerIs(false, size, last, last, last);
            handlerIs(false, size, size, size, last);
            handlerIs(false, size, size, size + 1, last);
            handlerIs(false, size, last + 1, last, last);
            handlerIs(false, size, 0, 0, 0);
            handlerIs(false, size, 0, -1, 0);
            handlerIs(false, size, 0, 1, size);
            handlerIs(false, size, 0, 1, -1);
        }
        for (int n : FAR) {
            handlerIs(false, 2, n, 2, 1);
            handlerIs(false, 2, 0, n, 1);
            handlerIs(false, 2, 0, 1, n);
        }
    }

    /** "its CLASS none or not BELOW 1": 1 itself is BELOW 1, OBJECT is not. */
    private static void handlerClass() {
        Script s = new Script("the CLASS of a HANDLER");
        for (int c = 2; c < 9; c++) s.due("cls", s.gate.cls(c == 8 ? 0 : c - 1, c == 7), c);
        for (int c : new int[] {-1, 0, 8, 9, 10, LEAST, MOST}) {
            s.begin(0, 0, 1).code("NOP; GIVE; GIVE").handler(0, 1, 2, c).verify(1, 100);
        }
        for (int c = 1; c <= 7; c++) {
            s.begin(0, 0, 1).code("NOP; GIVE; GIVE").handler(0, 1, 2, c).passes().stack(2, 16 + c);
        }
        s.begin(0, 0, 1).code("NOP; GIVE; GIVE").handler(0, 1, 2, 9).verify(1, 100);
        s.due("cls", s.gate.cls(7, false), 9).passes().stack(2, 25);
    }

    /** "for a HANDLER 100 and its number": 100, 101 and 102, the least that is wrong. */
    private static void handlersInOrder() {
        for (int wrong = 0; wrong < 8; wrong++) {
            Script s = new Script("wrong HANDLERS " + wrong);
            s.begin(0, 0, 1).code("NOP; GIVE; GIVE");
            for (int h = 0; h < 3; h++) s.handler(0, (wrong >> h & 1) != 0 ? 4 : 1, 2, 1);
            if (wrong == 0) s.passes();
            else s.verify(1, 100 + Integer.numberOfTrailingZeros(wrong));
        }
    }

    /** "or the ARGUMENTS have no room": place 200, behind INSTRUCTIONS and HANDLERS. */
    private static void argumentsLast() {
        Script s = new Script("ARGUMENTS");
        for (int locals = 0; locals <= 6; locals++) {
            for (int many = 0; many <= 6; many++) {
                s.begin(0, locals, 0);
                for (int i = 0; i < many; i++) s.due("argument", s.gate.argument(16), i + 1);
                s.code("GIVE");
                if (many <= locals) s.passes();
                else s.verify(1, 200).count(4, 0).state(0, 32, -1);
            }
        }
        Script t = new Script("ARGUMENTS behind the others");
        t.begin(0, 0, 1, 1).code("GIVE; PUSH 0").handler(0, 3, 0, 1).verify(1, 1);
        change(t, 1, "PUSH", 1, 0);
        t.verify(1, 100).code("GIVE").verify(1, 200);
    }

    /** FORM is looked at before all ways are gone, of INSTRUCTIONS that none goes to, too. */
    private static void formBeforeAll() {
        Script s = new Script("FORM first");
        s.begin(0, 1, 0).code("POP; GIVE; GO 3").verify(1, 2).count(4, 0).count(5, 0).state(0, 32, -1);
        change(s, 2, "GO", 0, 2);
        s.verify(2, 0).count(4, 1).count(5, 1);
    }

    /** "what it takes .. is not there": each op with just enough on the STACK, and with the lowest of that away. */
    private static void needsAreOneShort() {
        int[][] takes = {{4, 0, 0, 1}, {5, 0, 0, 1}, {6, 0, 0, 1, 1}, {7, 0, 0, 1, 1}, {8, 0, 0, 1, 1}, {8, 0, 0, 3},
            {9, 1, 0, 1, 1}, {9, 2, 0, 2, 2}, {9, 3, 0, 3, 3}, {9, 4, 0, 4, 4}, {10, 1, 2, 1}, {10, 4, 1, 4},
            {11, 2, 0, 2, 2}, {11, 3, 0, 3, 3}, {11, 4, 0, 4, 4}, {3, 0, 0, 1}, {3, 0, 0, 3}, {22, 0, 1, 5}, {23, 0, 1, 5, 1},
            {23, 0, 3, 5, 3}, {24, 1, 1, 1}, {24, 16, 1, 5}, {25, 16, 0, 5}, {26, 12, 0, 1}, {27, 76, 0, 5, 1},
            {28, 76, 0, 5, 1, 1}, {28, 80, 0, 5, 1, 5}, {29, 0, 0, 5}};
        for (int[] op : takes) {
            Script s = new Script("one short of op " + op[0] + " " + op[1]);
            for (int away = 0; away <= op.length - 3; away++) {
                s.begin(0, 2, 12);
                for (int i = 3 + away; i < op.length; i++) s.code("PUSH " + op[i]);
                int at = op.length - 3 - away;
                s.due("add", s.gate.add(op[0], op[1], op[2]), at).code("GIVE");
                if (away == 0) s.passes();
                else s.verify(2, at).count(4, at + 1).state(at, 32, at).state(at + 1, 32, -1);
            }
        }
        for (String op : new String[] {"IF 1", "IFREF 1", "CHOOSE 1 1", "THROW"}) {
            new Script(op + " of an empty STACK").begin(0, 0, 12).code(op + "; GIVE").verify(2, 0);
        }
        for (int result : new int[] {1, 2, 3, 4, 16, 76}) {
            new Script("GIVE of an empty STACK").begin(result, 0, 12).code("GIVE").verify(2, 0);
        }
        new Script("GIVE with RESULT 0").begin(0, 0, 12).code("GIVE").passes();
    }

    /** "or needs of a LOCAL": NOTHING is never enough, and a RETURN only for RET. */
    private static void needsOfLocals() {
        Script s = new Script("needs of LOCALS");
        for (String op : new String[] {"LOAD 11", "ADD 11", "RET 11"}) s.begin(0, 12, 12).code(op + "; GIVE").verify(2, 0);
        for (String op : new String[] {"LOAD 11", "ADD 11"}) {
            s.begin(0, 12, 12).code("SUB 1; STORE 11; " + op + "; GIVE").verify(2, 2);
        }
        s.begin(0, 12, 12).code("SUB 2; GIVE; STORE 11; RET 11").passes().locals(1);
        for (int t : new int[] {2, 5}) s.begin(0, 12, 12).code("PUSH " + t + "; STORE 11; ADD 11; GIVE").verify(2, 2);
        for (int t : new int[] {1, 2, 5}) s.begin(0, 12, 12).code("PUSH " + t + "; STORE 11; RET 11; GIVE").verify(2, 2);
        s.begin(0, 12, 12).code("PUSH 1; STORE 11; ADD 11; LOAD 11; GIVE").passes().stack(4, 1);
        s.begin(0, 12, 12).code("NEW 1; STORE 11; LOAD 11; GIVE").passes().stack(3, 1000);
        s.begin(0, 12, 12).code("NEW 1; STORE 11; RET 11").verify(2, 2);
    }

    /** "the STACK would count more than STACK": with 0 nothing may be put, else up to the last one. */
    private static void noRoom() {
        Script s = new Script("no room");
        for (String op : new String[] {"PUSH 1", "PUSH 3", "PUSH 5", "LOAD 0", "NEW 0", "SUB 1"}) {
            s.begin(0, 1, 0, 1).code(op + "; GIVE").verify(3, 0).count(4, 1).state(1, 32, -1);
        }
        for (int stack = 1; stack <= 12; stack++) {
            Script t = new Script("a STACK of " + stack);
            for (String op : new String[] {"PUSH 5", "LOAD 0", "NEW 0", "SUB " + (stack + 1), "DUP"}) {
                t.begin(0, 1, stack, 1);
                for (int k = 0; k < stack; k++) t.code("PUSH 1");
                t.code(op + "; GIVE").verify(3, stack).state(stack, 32, stack);
                if (stack == 1 && op.equals("DUP")) continue;
                change(t, 0, "NOP", 0, 0);
                t.passes().state(stack + 1, 32, stack);
            }
        }
        s.begin(0, 0, 3).code("PUSH 1; PUSH 1; DUP2; GIVE").verify(3, 2);
        s.begin(0, 0, 4).code("PUSH 1; PUSH 1; DUP2; GIVE").passes();
        s.begin(0, 0, 2).code("PUSH 1; PUSH 1; OVER; GIVE").verify(3, 2);
        s.begin(0, 0, 3).code("PUSH 1; PUSH 1; OVER; GIVE").passes();
        // What takes as much as it puts has room on a full STACK.
        s.begin(0, 0, 2).code("PUSH 1; PUSH 1; SWAP; NOP; MATH 1; CHANGE 1 2; CHANGE 2 1; ROW 12; SIZE; GIVE").passes();
        s.stack(9, 1);
    }

    /** "4: the one that is MET": on, a goal, the first of a SUBROUTINE, behind a SUB, a HANDLER's AT. */
    private static void meetPlace() {
        Script s = new Script("the place of MEET");
        s.begin(0, 1, 3, 1).code("LOAD 0; IF 3; PUSH 1; GIVE").verify(4, 3);
        s.begin(0, 1, 3, 1).code("LOAD 0; IF 0; PUSH 1; GO 0").verify(4, 0);
        s.begin(0, 1, 3, 1).code("LOAD 0; DUP; IF 0; GIVE").verify(4, 0);
        s.begin(0, 1, 3, 16).code("LOAD 0; DUP; IFREF 0; GIVE").verify(4, 0);
        s.begin(0, 1, 3, 1).code("LOAD 0; DUP; CHOOSE 0 3; GIVE").verify(4, 0);
        s.begin(0, 1, 3, 1).code("LOAD 0; DUP; CHOOSE 3 0; GIVE").verify(4, 0);
        s.begin(0, 1, 3, 1).code("NOP; SUB 0").verify(4, 0);
        s.begin(0, 1, 3, 1).code("SUB 3; PUSH 1; SUB 3; STORE 0; RET 0").verify(4, 3);
        s.begin(0, 2, 3, 1).code("SUB 2; GIVE; STORE 1; LOAD 0; IF 7; PUSH 1; RET 1; RET 1").verify(4, 1);
        s.begin(0, 1, 3, 1).code("NOP; GIVE").handler(0, 1, 1, 1).verify(4, 1);
        s.begin(0, 1, 3, 1).code("NOP; GIVE").handler(0, 1, 0, 1).verify(4, 0).count(4, 1);
    }

    /** "as many are not on the STACK": none and one, one and none, eleven and twelve. */
    private static void meetFewerOrMore() {
        for (int depth = 0; depth < 12; depth++) {
            Script s = new Script("as many, from " + depth);
            s.begin(0, 1, 12, 1).code("LOAD 0; IF " + (depth + 4));
            for (int i = 0; i < depth; i++) s.code("PUSH 1");
            s.code("NOP; GO " + (2 * depth + 6) + "; NOP");
            for (int i = 0; i < depth; i++) s.code("PUSH 2");
            s.code("PUSH 2; GIVE").verify(4, 2 * depth + 6).state(2 * depth + 6, 32, depth);
            change(s, 2 * depth + 5, "NOP", 0, 0);
            s.passes().state(2 * depth + 6, 32, depth);
            if (depth > 0) s.state(2 * depth + 6, 16, 0).state(2 * depth + 6, 15 + depth, 0);
            change(s, 2 * depth + 5, "PUSH", 2, 0);
            change(s, depth + 2, "PUSH", 1, 0);
            s.passes().state(2 * depth + 6, 32, depth + 1);
        }
    }

    /** "behind the last one there is none": whatever goes on from the last one has its FAULT there. */
    private static void end() {
        Script s = new Script("END");
        for (String op : new String[] {"NOP", "PUSH 1", "LOAD 0", "ADD 0", "NEW 0"}) {
            s.begin(0, 1, 2, 1).code(op).verify(5, 0).count(4, 1).count(5, 1);
            s.begin(0, 1, 2, 1).code("NOP; " + op).verify(5, 1);
        }
        s.begin(0, 1, 2, 1).code("LOAD 0; IF 0").verify(5, 1);
        s.begin(0, 1, 2, 16).code("LOAD 0; IFREF 0").verify(5, 1);
        // A SUB as the last one: it is the RET that goes behind it.
        s.begin(0, 1, 2, 1).code("GO 3; STORE 0; RET 0; SUB 1").verify(5, 2).count(5, 4);
        Script full = new Script("END of 48");
        for (int k = 0; k < 48; k++) full.code("NOP");
        full.verify(5, 47).count(4, 48).count(5, 48);
        change(full, 47, "GO", 0, 0);
        full.passes().count(4, 48);
    }

    /** The last one may end or go elsewhere. */
    private static void noEnd() {
        Script s = new Script("no END");
        s.begin(0, 1, 2, 1).code("GIVE").passes().begin(0, 1, 2, 17).code("LOAD 0; THROW").passes();
        s.begin(0, 1, 2, 1).code("GO 0").passes().begin(0, 1, 2, 1).code("LOAD 0; CHOOSE 0 0").passes();
        s.begin(0, 1, 2, 1).code("GO 2; GIVE; SUB 1").passes();
        s.begin(0, 1, 2, 1).code("SUB 2; GIVE; STORE 0; RET 0").passes();
        s.begin(0, 1, 2, 1).code("GIVE; NOP").passes().state(1, 32, -1);
    }

    /** "SUB b in b": in itself, out of one that it began, and not once it was left. */
    private static void again() {
        Script s = new Script("AGAIN");
        s.begin(0, 2, 3).code("SUB 1; SUB 1; GIVE").verify(6, 1).count(4, 2).state(2, 32, -1);
        s.begin(0, 2, 3).code("SUB 1; SUB 2; SUB 1; GIVE").verify(6, 2);
        s.begin(0, 2, 3).code("SUB 1; SUB 2; SUB 2; GIVE").verify(6, 2);
        s.begin(0, 2, 3).code("SUB 1; SUB 2; SUB 3; GIVE").passes().subs(3, 1, 0, 2, 0, 3, 0);
        s.begin(0, 2, 3).code("SUB 3; SUB 3; GIVE; STORE 0; RET 0").passes();
        // 0 as a SUBROUTINE is not in SUBS when it is gone to otherwise.
        s.begin(0, 2, 3).code("GO 2; GIVE; SUB 1").passes().subs(1, 1, 0);
    }

    /** "RET of one that is not in SUBS": its RETURN outlives it where an outer one was left. */
    private static void back() {
        Script s = new Script("BACK");
        s.begin(0, 2, 2).code("SUB 3; RET 0; GIVE; STORE 1; SUB 5; STORE 0; RET 1").verify(7, 1).locals(1, 2005);
        change(s, 1, "GIVE", 0, 0);
        s.passes();
        // In SUBS it may be left from as deep as it likes.
        s.begin(0, 3, 1).code("SUB 2; GIVE; STORE 0; SUB 4; STORE 1; SUB 6; STORE 2; RET 0").passes();
        s.subs(7, 2, 7, 4, 6, 6, 4).subs(1);
        s.locals(1, 0, 2004, 2006);
    }

    /** "to an INSTRUCTION that is not behind it": itself and those before it, but not the next one. */
    private static void rawToItself() {
        Script s = new Script("RAW to itself");
        s.begin(0, 1, 2).code("NEW 0; GO 1").verify(8, 1).count(4, 2);
        s.begin(0, 1, 2).code("NEW 0; GO 0").verify(8, 1);
        s.begin(0, 1, 2).code("NEW 0; GO 2; GIVE").passes();
        s.begin(0, 1, 2).code("NEW 0; PUSH 1; IF 2; GIVE").verify(8, 2).stack(3, 1000);
        s.begin(0, 1, 2).code("NEW 0; PUSH 1; IF 3; GIVE").passes().stack(3, 1000);
        s.begin(0, 1, 2).code("NEW 0; PUSH 5; IFREF 2; GIVE").verify(8, 2);
        s.begin(0, 1, 2).code("NEW 0; PUSH 1; CHOOSE 2 3; GIVE").verify(8, 2).state(3, 32, -1);
        s.begin(0, 1, 2).code("NEW 0; PUSH 1; CHOOSE 3 2; GIVE").verify(8, 2).stack(3, 1000);
        s.begin(0, 1, 2).code("NEW 0; SUB 1").verify(8, 1);
        s.begin(0, 1, 2).code("NEW 0; SUB 2; GIVE").passes().stack(2, 1000, 2002);
    }

    /** "a RAW is in a LOCAL or on the STACK": the first or the last of either. */
    private static void rawEverywhere() {
        for (int local = 0; local <= 11; local++) {
            Script s = new Script("RAW in LOCAL " + local);
            s.begin(0, 12, 1).code("NEW 0; STORE " + local + "; NOP; GO 2").verify(8, 3);
            s.begin(0, 12, 1).code("NEW 0; STORE " + local + "; LOAD " + local + "; BUILD 0; GO 4").passes();
            s.state(4, local, 16);
            s.begin(0, 12, 1).code("NEW 0; STORE " + local + "; PUSH 1; STORE " + local + "; GO 0").passes();
        }
        for (int above = 0; above <= 11; above++) {
            Script s = new Script("RAW under " + above);
            s.begin(0, 0, 12);
            for (int i = above; i < 11; i++) s.code("PUSH 1");
            s.code("NEW 0");
            for (int i = 0; i < above; i++) s.code("PUSH 1");
            s.code("GO 12").verify(8, 12).state(12, 32, 12);
        }
    }

    /** "or a HANDLER is MET with one in a LOCAL", in front of it or not; on the STACK it does no harm. */
    private static void rawAtHandlers() {
        for (int local = 0; local <= 11; local += 11) {
            Script s = new Script("RAW at a HANDLER in LOCAL " + local);
            String code = "NEW 0; STORE " + local + "; NOP; GIVE; THROW";
            s.begin(0, 12, 1).code(code).handler(0, 1, 4, 1).handler(1, 2, 4, 1).passes().stack(4, 17);
            s.begin(0, 12, 1).code(code).handler(2, 3, 4, 1).verify(8, 2).state(4, 32, -1);
            s.begin(0, 12, 1).code(code).handler(3, 4, 4, 1).verify(8, 3).state(4, 32, -1);
            s.begin(0, 12, 1).code(code).handler(2, 4, 0, 1).verify(8, 2);
        }
        Script s = new Script("RAW on the STACK at a HANDLER");
        s.begin(0, 1, 2).code("NEW 0; NOP; GIVE; THROW").handler(0, 3, 3, 1).passes().stack(3, 17);
        s.begin(0, 1, 2).code("GO 2; THROW; NEW 0; NOP; GIVE").handler(2, 5, 1, 1).passes().stack(1, 17);
    }

    /** "Going to an INSTRUCTION: 5, then 8, then 4"; on comes before the goals. */
    private static void goingInOrder() {
        Script s = new Script("5, then 8, then 4");
        s.begin(0, 1, 3).code("NEW 0; NOP").verify(5, 1);
        s.begin(0, 1, 3).code("NEW 0; PUSH 1; IF 0").verify(5, 2);
        s.begin(0, 1, 3).code("PUSH 1; PUSH 1; IF 0").verify(5, 2);
        s.begin(0, 1, 3).code("NEW 0; GO 0").verify(8, 1);
        s.begin(0, 1, 3).code("NEW 0; STORE 0; PUSH 1; GO 0").verify(8, 3);
        s.begin(0, 1, 3).code("PUSH 1; GO 0").verify(4, 0);
        s.begin(0, 1, 3).code("NEW 0; PUSH 1; IF 0; GIVE").verify(8, 2);
        s.begin(0, 1, 3).code("NEW 0; PUSH 1; CHOOSE 0 3; GIVE").verify(8, 2).state(3, 32, -1);
        // Forwards a RAW one is no FAULT, but another number on the STACK is.
        s.begin(0, 1, 3, 1).code("LOAD 0; IF 3; NEW 0; GIVE").verify(4, 3);
    }

    /** "a HANDLER: 8, then 3 if STACK is 0, then 4". */
    private static void handlerInOrder() {
        Script s = new Script("8, then 3, then 4");
        // AT has been gone to with an empty STACK: it is 4 there, if nothing comes before.
        s.begin(0, 1, 1).code("NOP; NOP; NOP; GIVE").handler(2, 3, 0, 1).verify(4, 0);
        s.begin(0, 1, 1).code("NEW 0; STORE 0; NOP; GIVE").handler(2, 3, 0, 1).verify(8, 2);
        s.begin(0, 1, 0).code("NOP; NOP; NOP; GIVE").handler(2, 3, 0, 1).verify(3, 2).count(4, 3);
        s.begin(0, 1, 0).code("NOP; GIVE; GIVE").handler(0, 1, 2, 1).verify(3, 0).state(2, 32, -1);
        s.begin(0, 1, 0).code("GIVE; GIVE").handler(1, 2, 0, 1).passes();
        s.begin(0, 1, 1).code("NOP; GIVE; GIVE").handler(0, 1, 2, 1).passes().stack(2, 17);
        // A full STACK is none for a HANDLER, since it begins with its one.
        s.begin(0, 1, 1).code("PUSH 1; NOP; GIVE; GIVE").handler(1, 2, 3, 1).passes().stack(3, 17);
    }

    /** "SUB: 6, then 3", and then what going to b brings. */
    private static void subInOrder() {
        Script s = new Script("6, then 3");
        s.begin(0, 1, 1).code("SUB 1; SUB 1; GIVE").verify(6, 1);
        s.begin(0, 1, 1).code("SUB 1; SUB 2; GIVE").verify(3, 1);
        s.begin(0, 1, 2).code("SUB 1; SUB 1; GIVE").verify(6, 1);
        s.begin(0, 1, 1).code("NEW 0; SUB 0").verify(3, 1);
        s.begin(0, 1, 2).code("NEW 0; SUB 0").verify(8, 1);
        s.begin(0, 1, 2).code("PUSH 1; SUB 0").verify(4, 0);
        s.begin(0, 1, 1).code("PUSH 1; SUB 0").verify(3, 1);
    }

    /** "RET: 2, then 7", and then what going back brings. */
    private static void retInOrder() {
        Script s = new Script("2, then 7");
        s.begin(0, 1, 1).code("RET 0").verify(2, 0);
        s.begin(0, 2, 2).code("SUB 3; RET 1; GIVE; STORE 1; SUB 5; STORE 0; RET 1").verify(2, 1);
        // Behind the SUB it would be 8, for the RAW one, and 4, for the STACK: 7 comes before them.
        s.begin(0, 3, 2).code("SUB 3; GO 7; GIVE; STORE 1; SUB 5; STORE 0; RET 1; NEW 0; STORE 2; RET 0").verify(7, 9);
        s.begin(0, 2, 2).code("GO 4; NOP; STORE 1; RET 1; NEW 0; SUB 2").verify(8, 5);
        s.begin(0, 2, 2).code("NEW 0; SUB 3; GIVE; STORE 1; RET 1").verify(8, 4);
        s.begin(0, 2, 2).code("GO 3; STORE 1; RET 1; SUB 1").verify(5, 2);
    }

    /** "its STATE is MET by the HANDLERS ..; then it is done": their FAULTS are found before its own. */
    private static void handlersBeforeTheInstruction() {
        Script s = new Script("HANDLERS first");
        s.begin(0, 1, 1).code("POP; GIVE").handler(0, 1, 0, 1).verify(4, 0);
        s.begin(0, 1, 0).code("POP; GIVE; GIVE").handler(0, 1, 2, 1).verify(3, 0);
        s.begin(0, 1, 1).code("NEW 0; STORE 0; POP; GIVE").handler(2, 3, 3, 1).verify(8, 2);
        s.begin(0, 1, 1).code("POP; GIVE; GIVE").handler(0, 1, 2, 1).verify(2, 0).stack(2, 17);
        // By numbers, each with "in FROM .. TO - 1".
        s.begin(0, 1, 1).code("NOP; NOP; NOP; GIVE; GIVE").handler(1, 2, 4, 1).passes().stack(4, 17).count(5, 5);
        s.begin(0, 1, 1).code("NOP; NOP; NOP; GIVE; GIVE").handler(4, 5, 4, 1).passes().state(4, 32, -1);
    }

    /** "-1 without": before the first verify(), after one without FAULT, and a FAULT's place stays until the next. */
    private static void placeWithout() {
        Script s = new Script("place");
        s.due("before", s.gate.place(), -1).verify(1, 0).due("again", s.gate.place(), 0);
        s.code("GIVE").due("still", s.gate.place(), 0).passes().due("again", s.gate.place(), -1);
        s.begin(0, 0, 0).code("NOP; POP").due("still", s.gate.place(), -1).verify(2, 1);
        s.due("REFUSED", s.gate.change(9, 0, 0, 0), -1).due("still", s.gate.place(), 1).count(6, 1);
    }
}
