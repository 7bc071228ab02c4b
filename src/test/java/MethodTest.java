/** Promises 1, 3 to 7 and 13: what is told of THE METHOD, and how much of it there is. */
public final class MethodTest {
    public static void main(String[] args) {
        fresh();
        begin();
        arguments();
        instructions();
        change();
        handlers();
        counts();
        Script.end();
    }

    private static void fresh() {
        Script s = new Script("fresh");
        s.count(0, 2);
        for (int what = 1; what <= 7; what++) s.count(what, 0);
        s.count(-1, -1).count(8, -1).count(Integer.MAX_VALUE, -1).count(Integer.MIN_VALUE, -1);
        s.due("place()", s.gate.place(), -1);
        s.state(0, 0, -1).state(0, 32, -1).state(0, 33, -1);
        s.due("17 goes for 16", s.gate.goes(17, 16), 1).due("16 not for 17", s.gate.goes(16, 17), 0);
        s.verify(1, 0);
        // RESULT, LOCALS and STACK are 0.
        s.code("GIVE").passes().locals(0).stack(0).count(6, 1);
        Script noRoom = new Script("fresh without STACK");
        noRoom.code("PUSH 1; GIVE").verify(3, 0);
        Script noLocal = new Script("fresh without LOCALS");
        noLocal.code("LOAD 0; GIVE").verify(1, 0);
    }

    private static void begin() {
        Script s = new Script("begin");
        s.begin(1, 2, 2, 1).code("LOAD 0; GIVE").handler(0, 1, 1, 1);
        for (int result : new int[] {-1, 5, 6, 12, 15, 18, 26, 64, 75, 77, 82, 203, 256, 268, 1000, 2000}) {
            s.due("begin(" + result + ", 0, 0)", s.gate.begin(result, 0, 0), -1);
        }
        for (int wrong : new int[] {-1, 13, Integer.MIN_VALUE, Integer.MAX_VALUE}) {
            s.due("locals " + wrong, s.gate.begin(0, wrong, 0), -1);
            s.due("stack " + wrong, s.gate.begin(0, 0, wrong), -1);
        }
        // What is REFUSED leaves THE METHOD as it was.
        s.count(1, 2).count(2, 1).count(3, 1);
        s.gate.change(1, 18, 0, 0);
        s.verify(2, 1);
        for (int result : new int[] {0, 1, 2, 3, 4, 16, 17, 76, 80, 81, 140, 144, 145, 204, 208, 209}) {
            s.due("begin(" + result + ", 12, 12)", s.gate.begin(result, 12, 12), 1);
        }
        s.count(1, 0).count(2, 0).count(3, 0).verify(1, 0);
        s.due("begin(0, 0, 0)", s.gate.begin(0, 0, 0), 1);
        s.due("cls", s.gate.cls(0, false), 2);
        s.due("begin(18, 0, 0)", s.gate.begin(18, 0, 0), 1);
    }

    private static void arguments() {
        Script s = new Script("arguments");
        s.begin(0, 12, 0);
        for (int type : new int[] {-1, 0, 5, 6, 12, 18, 26, 64, 82, 268, 1000, 2000}) {
            s.due("argument(" + type + ")", s.gate.argument(type), -1);
        }
        s.count(3, 0);
        int[] types = {1, 3, 2, 4, 17, 204};
        for (int i = 0; i < types.length; i++) s.due("argument", s.gate.argument(types[i]), i + 1);
        s.due("a seventh", s.gate.argument(1), -2).due("a seventh that is none", s.gate.argument(0), -1);
        s.count(3, 6);
        s.code("GIVE").passes().locals(0, 1, 3, 0, 2, 4, 0, 17, 204, 0, 0, 0, 0);
        s.begin(0, 12, 0, 3, 3, 3, 4, 4, 4).code("GIVE").passes().locals(0, 3, 0, 3, 0, 3, 0, 4, 0, 4, 0, 4, 0);
    }

    private static void instructions() {
        Script s = new Script("instructions");
        s.begin(0, 1, 1);
        for (int op : new int[] {-1, 31, Integer.MAX_VALUE, Integer.MIN_VALUE}) {
            s.due("add(" + op + ")", s.gate.add(op, 0, 0), -1);
        }
        for (int op = 0; op <= 30; op++) s.due("add(" + op + ")", s.gate.add(op, -7, 99), op);
        for (int k = 31; k < 48; k++) s.due("add", s.gate.add(0, 0, 0), k);
        s.due("a 49th", s.gate.add(0, 0, 0), -2).due("a 49th that is none", s.gate.add(31, 0, 0), -1);
        s.count(1, 48);
        s.begin(0, 1, 1);
        for (int k = 0; k < 47; k++) s.code("NOP");
        s.code("GIVE").passes().count(4, 48).count(5, 48);
    }

    private static void change() {
        Script s = new Script("change");
        s.begin(0, 1, 1);
        s.due("none", s.gate.change(0, 0, 0, 0), -1);
        s.code("PUSH 1; GIVE");
        s.due("none", s.gate.change(2, 0, 0, 0), -1).due("none", s.gate.change(-1, 0, 0, 0), -1);
        s.due("no op", s.gate.change(0, 31, 0, 0), -1).due("no op", s.gate.change(0, -1, 0, 0), -1);
        s.passes().stack(1, 1);
        s.due("change", s.gate.change(0, 1, 5, 0), 1);
        // STATES are as the latest verify() found them.
        s.stack(1, 1).passes().stack(1, 5);
        s.due("change", s.gate.change(0, 14, 0, 1), 1).due("change", s.gate.change(0, 30, 0, 0), 14);
        s.due("change", s.gate.change(0, 0, 0, 0), 30).passes().count(1, 2);
    }

    private static void handlers() {
        Script s = new Script("handlers");
        s.begin(0, 0, 1);
        s.due("handler", s.gate.handler(-5, 99, 1000, -1), 1);
        s.due("handler", s.gate.handler(0, 0, 0, 0), 2);
        s.due("handler", s.gate.handler(0, 0, 0, 0), 3);
        s.due("a fourth", s.gate.handler(0, 1, 0, 1), -2).count(2, 3);
        s.begin(0, 0, 1).count(2, 0);
        s.code("NOP; GIVE").handler(0, 1, 1, 1).verify(4, 1);
    }

    private static void counts() {
        Script s = new Script("counts");
        s.begin(0, 1, 2, 1).code("SUB 3; SUB 3; GIVE; STORE 0; RET 0; SUB 3");
        s.passes().count(4, 7).count(1, 6).count(2, 0).count(3, 1).count(5, 5).count(6, 1).count(7, 1);
        s.gate.change(1, 15, 0, 5);
        s.count(7, 1);
        s.verify(4, 3).count(4, 5).count(6, 1).count(7, 2);
        s.gate.change(1, 0, 0, 0);
        s.passes().count(6, 2).count(7, 1).passes().count(6, 3);
        // begin() begins another METHOD, but the latest verify() is still the latest one.
        s.begin(0, 0, 0).count(1, 0).count(3, 0).count(4, 5).count(5, 5).count(6, 3).count(7, 1);
        s.due("place()", s.gate.place(), -1).state(3, 16, 2003);
        s.verify(1, 0).count(4, 0).count(5, 0).count(6, 3).count(7, 0).state(0, 32, -1);
    }
}
