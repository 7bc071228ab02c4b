/** Promises 8, 9 and 14, FAULT 1: numbers of INSTRUCTIONS, HANDLERS and ARGUMENTS that are not as said. */
public final class FormTest {
    public static void main(String[] args) {
        numbers();
        order();
        handlers();
        arguments();
        Script.end();
    }

    /** One INSTRUCTION behind a GIVE, so that nothing but its FORM is looked at. */
    private static void form(boolean right, String op, int a, int b) {
        Script s = new Script("form of " + op + " " + a + " " + b);
        s.due("cls", s.gate.cls(0, false), 2);
        s.begin(0, 3, 3).code("NOP; GIVE");
        s.due("add", s.gate.add(Script.op(op), a, b), 2);
        if (right) s.passes();
        else s.verify(1, 2).count(4, 0).count(5, 0).state(0, 32, -1);
    }

    private static void range(String op, int least, int most) {
        for (int a = least; a <= most; a++) form(true, op, a, -9);
        form(false, op, least - 1, least);
        form(false, op, most + 1, least);
        form(false, op, Integer.MIN_VALUE, least);
        form(false, op, Integer.MAX_VALUE, least);
    }

    private static void numbers() {
        for (String op : new String[] {"NOP", "POP", "DUP", "OVER", "SWAP", "DUP2", "GIVE", "THROW", "SIZE"}) {
            form(true, op, -1, 99);
        }
        range("PUSH", 1, 5);
        for (String op : new String[] {"LOAD", "STORE", "RET", "ADD"}) range(op, 0, 2);
        range("MATH", 1, 4);
        range("COMPARE", 2, 4);
        range("NEW", 0, 2);
        range("BUILD", 0, 2);
        for (int t = 0; t <= 5; t++) {
            form(t >= 1 && t <= 4, "CHANGE", t, 1);
            form(t >= 1 && t <= 4, "CHANGE", 4, t);
        }
        for (String op : new String[] {"IF", "IFREF", "GO", "SUB"}) {
            for (int b = -1; b <= 3; b++) form(b >= 0 && b <= 2, op, 99, b);
        }
        for (int goal = -1; goal <= 3; goal++) {
            form(goal >= 0 && goal <= 2, "CHOOSE", goal, 0);
            form(goal >= 0 && goal <= 2, "CHOOSE", 2, goal);
        }
        types();
    }

    private static void types() {
        int[] refs = {16, 17, 18, 76, 80, 82, 140, 144, 146, 204, 208, 210};
        int[] none = {-1, 6, 11, 13, 15, 19, 63, 64, 75, 77, 83, 203, 211, 256, 268, 1000, 1001, 2000, 2001};
        for (int t : refs) {
            form(true, "GET", 2, t);
            form(true, "SET", 0, t);
            form(true, "CALL", t, t);
            form(true, "CAST", t, -1);
            form(t < 192, "ROW", t, -1);
            form(t >= 64, "AT", t, -1);
            form(t >= 64, "PUT", t, -1);
        }
        for (int t = 0; t <= 5; t++) {
            boolean value = t >= 1 && t <= 4;
            form(value, "GET", 0, t);
            form(value, "SET", 0, t);
            form(value, "CALL", t, 1);
            form(value, "CALL", 1, t);
            for (String op : new String[] {"CAST", "ROW", "AT", "PUT"}) form(false, op, t, 16);
        }
        for (int t : none) {
            form(false, "GET", 0, t);
            form(false, "SET", 0, t);
            form(false, "CALL", t, 16);
            form(false, "CALL", 16, t);
            for (String op : new String[] {"CAST", "ROW", "AT", "PUT"}) form(false, op, t, 16);
        }
        form(true, "ROW", 12, -1);
        for (String op : new String[] {"CAST", "AT", "PUT"}) form(false, op, 12, -1);
        for (int c : new int[] {-1, 3, 16}) {
            form(false, "GET", c, 1);
            form(false, "SET", c, 1);
        }
    }

    private static void order() {
        Script s = new Script("no INSTRUCTION comes first");
        s.begin(0, 0, 0, 1).handler(5, 2, 9, 0).verify(1, 0);
        s.code("PUSH 0; PUSH 6").verify(1, 0);
        s.gate.change(0, 1, 1, 0);
        s.verify(1, 1);
        s.gate.change(1, 18, 0, 0);
        s.verify(1, 100);
        Script t = new Script("FORM before all other FAULTS");
        t.begin(0, 1, 0).code("LOAD 0; PUSH 9").verify(1, 1).count(4, 0);
        t.gate.change(1, 18, 0, 0);
        t.verify(2, 0).count(4, 1);
    }

    private static void handler(boolean right, int from, int to, int at, int c) {
        Script s = new Script("handler " + from + " " + to + " " + at + " " + c);
        s.due("cls", s.gate.cls(1, false), 2).due("cls", s.gate.cls(0, false), 3).due("cls", s.gate.cls(2, true), 4);
        s.begin(0, 0, 1).code("GIVE; NOP; GIVE");
        s.due("handler", s.gate.handler(0, 1, 2, 1), 1);
        s.due("handler", s.gate.handler(from, to, at, c), 2);
        if (right) s.passes();
        else s.verify(1, 101);
    }

    private static void handlers() {
        handler(true, 1, 2, 0, 1);
        handler(true, 1, 3, 2, 2);
        handler(true, 2, 3, 2, 4);
        handler(false, -1, 2, 0, 1);
        handler(false, 1, 1, 0, 1);
        handler(false, 2, 1, 0, 1);
        handler(false, 1, 4, 0, 1);
        handler(false, 3, 3, 0, 1);
        handler(false, 1, 2, -1, 1);
        handler(false, 1, 2, 3, 1);
        handler(false, 1, 2, 0, 0);
        handler(false, 1, 2, 0, 3);
        handler(false, 1, 2, 0, 5);
        handler(false, 1, 2, 0, -1);
        handler(false, Integer.MIN_VALUE, Integer.MAX_VALUE, 0, 1);
        Script s = new Script("the last HANDLER");
        s.begin(0, 0, 1).code("GIVE; GIVE").handler(0, 1, 1, 1).handler(1, 2, 1, 1).handler(0, 3, 0, 1).verify(1, 102);
    }

    private static void arguments() {
        Script s = new Script("ARGUMENTS have no room");
        s.begin(0, 0, 0, 1).code("GIVE").verify(1, 200);
        s.begin(0, 1, 0, 1).code("GIVE").passes();
        s.begin(0, 1, 0, 3).code("GIVE").verify(1, 200);
        s.begin(0, 2, 0, 3).code("GIVE").passes();
        s.begin(0, 10, 0, 3, 3, 4, 4, 1, 2).code("GIVE").passes();
        s.begin(0, 9, 0, 3, 3, 4, 4, 1, 2).code("GIVE").verify(1, 200);
        s.begin(0, 11, 0, 3, 3, 3, 3, 3, 3).code("GIVE").verify(1, 200);
        s.begin(0, 1, 0, 3).code("GIVE").handler(0, 1, 1, 1).verify(1, 100);
    }
}
