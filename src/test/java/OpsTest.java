/** Promises 8 to 10: what each op takes from the STACK and puts there, and FAULTS 2 and 3. */
public final class OpsTest {
    public static void main(String[] args) {
        locals();
        wideLocals();
        shuffles();
        numbers();
        deciding();
        raw();
        objects();
        rows();
        room();
        slots();
        Script.end();
    }

    /** A METHOD whose ARGUMENTS are loaded in their order before the code comes; 12 LOCALS, STACK as told. */
    private static Script loaded(String name, int stack, int... types) {
        Script s = new Script(name);
        s.due("cls", s.gate.cls(0, false), 2).due("cls", s.gate.cls(2, false), 3).due("cls", s.gate.cls(0, true), 4);
        s.begin(0, 12, stack);
        int local = 0;
        for (int type : types) {
            if (type == 5) {
                s.code("PUSH 5");
            } else {
                s.gate.argument(type);
                s.code("LOAD " + local);
                local += type == 3 || type == 4 ? 2 : 1;
            }
        }
        return s;
    }

    /** The STACK that the op makes of what is there. */
    private static void makes(String op, int[] taken, int... put) {
        Script s = loaded(op + " of " + java.util.Arrays.toString(taken), 12, taken);
        s.code(op + "; GIVE").passes().stack(taken.length + 1, put);
    }

    private static void needs(String op, int... taken) {
        Script s = loaded(op + " of " + java.util.Arrays.toString(taken), 12, taken);
        s.code(op + "; GIVE").verify(2, taken.length).count(4, taken.length + 1);
    }

    private static int[] of(int... types) {
        return types;
    }

    private static void locals() {
        Script s = new Script("locals");
        s.begin(0, 3, 3, 1).code("LOAD 0; STORE 2; LOAD 2; PUSH 5; STORE 1; GIVE").passes();
        s.stack(1, 1).locals(1, 1, 0, 0).locals(2, 1, 0, 1).stack(2).stack(3, 1).locals(5, 1, 5, 1);
        s.begin(0, 1, 1).code("LOAD 0; GIVE").verify(2, 0);
        s.begin(0, 1, 1).code("STORE 0; GIVE").verify(2, 0);
        s.begin(0, 1, 1, 1).code("ADD 0; GIVE").passes().locals(1, 1).stack(1);
        for (int type : new int[] {2, 16, 76}) s.begin(0, 1, 1, type).code("ADD 0; GIVE").verify(2, 0);
        s.begin(0, 1, 1).code("ADD 0; GIVE").verify(2, 0);
        s.begin(0, 1, 1, 1).code("RET 0; GIVE").verify(2, 0);
        s.begin(0, 1, 1).code("RET 0; GIVE").verify(2, 0);
        // A RETURN may be stored but not loaded; NOTHING may be neither.
        s.begin(0, 1, 1).code("SUB 1; STORE 0; LOAD 0; GIVE").verify(2, 2).locals(2, 2001);
        s.begin(0, 1, 2, 1).code("LOAD 0; IF 4; PUSH 1; GO 5; PUSH 2; STORE 0; GIVE").verify(2, 5).stack(5, 0);
        s.begin(0, 1, 1).code("NEW 1; STORE 0; LOAD 0; BUILD 1; LOAD 0; GIVE").passes().locals(2, 1000).locals(4, 17);
    }

    private static void wideLocals() {
        Script s = new Script("wide locals");
        for (int wide = 3; wide <= 4; wide++) {
            s.begin(0, 3, 2).code("PUSH " + wide + "; STORE 1; LOAD 1; GIVE").passes().locals(2, 0, wide, 0).stack(3, wide);
            s.begin(0, 3, 2).code("PUSH " + wide + "; STORE 2; GIVE").verify(2, 1);
            s.begin(0, 3, 2, wide).code("LOAD 1; GIVE").verify(2, 0);
            // The one in front of what is stored is WIDE no more.
            s.begin(0, 3, 2, wide).code("PUSH 1; STORE 1; LOAD 1; LOAD 0; GIVE").verify(2, 3).locals(2, 0, 1, 0);
            s.begin(0, 3, 2, wide).code("PUSH 1; STORE 0; GIVE").passes().locals(2, 1, 0, 0);
            s.begin(0, 3, 2, wide).code("PUSH 1; STORE 2; GIVE").passes().locals(2, wide, 0, 1);
            s.begin(0, 4, 2, wide, 1).code("PUSH 3; STORE 1; GIVE").passes().locals(2, 0, 3, 0, 0);
            s.begin(0, 4, 2, 1, wide).code("PUSH 3; STORE 0; GIVE").passes().locals(2, 3, 0, 0, 0);
        }
        s.begin(0, 12, 2).code("PUSH 3; STORE 10; GIVE").passes().state(2, 10, 3).state(2, 11, 0);
        s.begin(0, 12, 2).code("PUSH 4; STORE 11; GIVE").verify(2, 1);
        s.begin(0, 2, 2, 3).code("ADD 0; GIVE").verify(2, 0);
    }

    private static void shuffles() {
        makes("NOP", of(1, 3), 1, 3);
        for (int t : new int[] {1, 2, 5, 16, 76}) {
            makes("POP", of(3, t), 3);
            makes("DUP", of(t), t, t);
            makes("OVER", of(4, 1, t), 4, t, 1, t);
            makes("SWAP", of(1, t), t, 1);
            makes("DUP2", of(t, 1), t, 1, t, 1);
            for (String op : new String[] {"OVER", "SWAP", "DUP2"}) needs(op, t);
            for (String op : new String[] {"OVER", "SWAP", "DUP2"}) needs(op, 3, t);
        }
        makes("DUP2", of(3), 3, 3);
        makes("DUP2", of(1, 4), 1, 4, 4);
        for (String op : new String[] {"POP", "DUP", "OVER", "SWAP", "DUP2"}) needs(op);
        for (String op : new String[] {"POP", "DUP", "OVER", "SWAP"}) needs(op, 1, 3);
        for (String op : new String[] {"POP", "DUP", "OVER", "SWAP"}) needs(op, 4);
        needs("DUP2", 4, 1);
        // RAW ones, RETURNS and NOTHING are not WIDE either.
        Script s = new Script("shuffled others");
        s.begin(0, 1, 4).code("NEW 0; DUP; OVER; SWAP; POP; GIVE").passes().stack(4, 1000, 1000, 1000).stack(5, 1000, 1000);
        s.begin(0, 1, 4).code("SUB 1; DUP; DUP2; POP; GIVE").passes().stack(4, 2001, 2001, 2001);
        String nothings = "LOAD 0; IF 4; PUSH 1; GO 5; PUSH 2; DUP; DUP2; OVER; SWAP; POP; GIVE";
        s.begin(0, 1, 4, 1).code(nothings).verify(3, 7);
        s.begin(0, 1, 5, 1).code(nothings).passes().stack(5, 0).stack(10, 0, 0, 0, 0);
    }

    private static void numbers() {
        for (int a = 1; a <= 4; a++) {
            makes("PUSH " + a, of(), a);
            makes("MATH " + a, of(1, a, a), 1, a);
            needs("MATH " + a, a);
            needs("MATH " + a, a, a == 1 ? 2 : 1);
            needs("MATH " + a, a == 1 ? 2 : 1, a);
            for (int b = 1; b <= 4; b++) {
                makes("CHANGE " + a + " " + b, of(a), b);
                if (a != b) needs("CHANGE " + a + " 1", b);
            }
            needs("CHANGE " + a + " 1");
            if (a > 1) {
                makes("COMPARE " + a, of(a, a), 1);
                needs("COMPARE " + a, a);
                needs("COMPARE " + a, 1, a);
                needs("COMPARE " + a, a, 1);
            }
        }
        makes("PUSH 5", of(), 5);
        needs("MATH 1", 5, 5);
        needs("MATH 1", 16, 16);
    }

    private static void deciding() {
        Script s = new Script("deciding");
        s.begin(0, 1, 2, 1).code("LOAD 0; IF 3; GIVE; GIVE").passes().stack(2).stack(3).count(4, 4);
        s.begin(0, 1, 2, 1).code("LOAD 0; CHOOSE 3 4; GIVE; GIVE; GIVE").passes().state(2, 32, -1).stack(3).stack(4);
        s.begin(0, 1, 2, 1).code("GO 2; GIVE; GIVE").passes().state(1, 32, -1).stack(2);
        for (int t : new int[] {16, 17, 76, 208}) {
            s.begin(0, 1, 2, t).code("LOAD 0; IFREF 3; GIVE; GIVE").passes().stack(2).stack(3);
            s.begin(0, 1, 2, t).code("LOAD 0; IF 3; GIVE; GIVE").verify(2, 1);
            s.begin(0, 1, 2, t).code("LOAD 0; CHOOSE 3 2; GIVE; GIVE").verify(2, 1);
        }
        s.begin(0, 1, 2).code("PUSH 5; IFREF 3; GIVE; GIVE").passes().stack(3);
        s.begin(0, 1, 2).code("PUSH 1; IFREF 3; GIVE; GIVE").verify(2, 1);
        s.begin(0, 1, 2).code("NEW 0; IFREF 3; GIVE; GIVE").verify(2, 1);
        s.begin(0, 1, 2).code("PUSH 5; IF 3; GIVE; GIVE").verify(2, 1);
        for (String op : new String[] {"IF 1", "IFREF 1", "CHOOSE 1 1", "THROW"}) {
            s.begin(0, 1, 2).code(op + "; GIVE").verify(2, 0);
        }
        giving();
        throwing();
    }

    private static void giving() {
        Script s = new Script("giving");
        for (int t = 1; t <= 4; t++) {
            s.begin(t, 0, 2).code("PUSH " + t + "; GIVE").passes();
            s.begin(t, 0, 2).code("PUSH " + (t == 1 ? 2 : 1) + "; GIVE").verify(2, 1);
            s.begin(t, 0, 2).code("PUSH 5; GIVE").verify(2, 1);
            s.begin(t, 0, 2).code("GIVE").verify(2, 0);
            s.begin(0, 0, 2).code("PUSH " + t + "; GIVE").passes();
        }
        s.begin(1, 0, 3).code("PUSH 3; PUSH 1; GIVE").passes();
        s.begin(16, 1, 2, 76).code("LOAD 0; GIVE").passes();
        s.begin(17, 1, 2, 16).code("LOAD 0; GIVE").verify(2, 1);
        s.begin(17, 1, 2).code("PUSH 5; GIVE").passes();
        s.begin(16, 1, 2).code("NEW 0; GIVE").verify(2, 1);
        s.begin(16, 1, 2).code("PUSH 1; GIVE").verify(2, 1);
        s.begin(16, 1, 2).code("SUB 1; GIVE").verify(2, 1);
    }

    private static void throwing() {
        Script s = new Script("throwing");
        s.due("cls", s.gate.cls(1, false), 2);
        s.begin(0, 1, 2, 17).code("LOAD 0; THROW").passes();
        s.begin(0, 1, 2, 18).code("LOAD 0; THROW").passes();
        s.begin(0, 1, 2).code("PUSH 5; THROW").passes();
        s.begin(0, 1, 2, 16).code("LOAD 0; THROW").verify(2, 1);
        s.begin(0, 1, 2, 81).code("LOAD 0; THROW").verify(2, 1);
        s.begin(0, 1, 2).code("NEW 1; THROW").verify(2, 1);
    }

    private static void raw() {
        Script s = new Script("raw");
        s.begin(0, 3, 4).code("NEW 1; DUP; STORE 2; DUP; NEW 1; BUILD 1; BUILD 1; GIVE").passes();
        s.stack(1, 1000).locals(3, 0, 0, 1000).stack(5, 1000, 1000, 1004).stack(6, 1000, 1000);
        s.locals(6, 0, 0, 1000).stack(7, 17).locals(7, 0, 0, 17);
        s.begin(0, 0, 1).code("NEW 1; BUILD 0; GIVE").verify(2, 1);
        s.begin(0, 0, 1).code("PUSH 5; BUILD 0; GIVE").verify(2, 1);
        s.begin(0, 0, 1).code("BUILD 0; GIVE").verify(2, 0);
        s.begin(0, 1, 1, 17).code("LOAD 0; BUILD 1; GIVE").verify(2, 1);
        s.begin(0, 0, 1).code("NEW 1; CALL 16 1; GIVE").verify(2, 1);
        s.begin(0, 0, 1).code("NEW 1; CAST 16; GIVE").verify(2, 1);
        s.begin(0, 0, 1).code("NEW 1; GET 0 1; GIVE").verify(2, 1);
        s.begin(0, 0, 0).code("NEW 1; GIVE").verify(3, 0);
        // Two NEWS that come together are NOTHING.
        s.begin(0, 1, 1, 1).code("LOAD 0; IF 4; NEW 1; GO 5; NEW 1; BUILD 1; GIVE").verify(2, 5).stack(5, 0);
    }

    private static void objects() {
        for (int t : new int[] {1, 2, 3, 4, 16, 204}) {
            makes("GET 2 " + t, of(1, 18), 1, t);
            makes("GET 2 " + t, of(19), t);
            makes("GET 2 " + t, of(5), t);
            makes("CALL 18 " + t, of(2, 19), 2, t);
            makes("CALL " + t + " 1", of(2, t), 2, 1);
            makes("SET 2 " + t, of(1, 18, t), 1);
            makes("SET 2 " + t, of(5, t));
            needs("SET 2 " + t, t);
            needs("SET 3 " + t, 18, t);
        }
        makes("GET 4 1", of(18), 1);
        makes("GET 0 1", of(76), 1);
        makes("SET 3 16", of(19, 76));
        makes("SET 3 20", of(19, 18));
        makes("SET 3 80", of(5, 5));
        makes("CALL 20 3", of(16), 3);
        needs("GET 3 1", 18);
        needs("GET 4 1", 76);
        needs("GET 2 1", 1);
        needs("GET 2 1");
        needs("SET 2 1", 18, 2);
        needs("SET 2 1", 1, 18);
        needs("SET 2 19", 18, 18);
        needs("SET 2 1");
        needs("CALL 19 1", 18);
        needs("CALL 1 1", 2);
        needs("CALL 1 1");
        for (int t : new int[] {16, 18, 20, 76, 80, 204, 210}) {
            makes("CAST " + t, of(16), t);
            makes("CAST " + t, of(1, 5), 1, t);
            makes("CAST 19", of(t), 19);
            needs("CAST " + t, 1);
            needs("CAST " + t, 3);
            needs("CAST " + t);
        }
    }

    private static void rows() {
        makes("ROW 12", of(3, 1), 3, 76);
        makes("ROW 76", of(1), 140);
        makes("ROW 140", of(1), 204);
        makes("ROW 18", of(1), 82);
        makes("ROW 82", of(1), 146);
        makes("ROW 146", of(1), 210);
        needs("ROW 12", 2);
        needs("ROW 12", 5);
        needs("ROW 12");
        makes("AT 76", of(2, 76, 1), 2, 1);
        makes("AT 76", of(5, 1), 1);
        makes("AT 140", of(140, 1), 76);
        makes("AT 82", of(82, 1), 18);
        makes("AT 210", of(5, 1), 146);
        needs("AT 82", 83, 1);
        needs("AT 80", 140, 1);
        needs("AT 76", 76, 2);
        needs("AT 76", 76);
        needs("AT 76", 1);
        needs("AT 76");
        makes("PUT 76", of(2, 76, 1, 1), 2);
        makes("PUT 76", of(5, 1, 1));
        makes("PUT 140", of(140, 1, 76));
        makes("PUT 140", of(140, 1, 5));
        makes("PUT 82", of(82, 1, 19));
        makes("PUT 144", of(5, 1, 140));
        makes("PUT 84", of(84, 1, 16));
        needs("PUT 82", 83, 1, 19);
        needs("PUT 83", 83, 1, 18);
        needs("PUT 76", 76, 1, 5);
        needs("PUT 76", 76, 2, 1);
        needs("PUT 80", 80, 5, 16);
        needs("PUT 140", 140, 1, 80);
        needs("PUT 80", 80, 1, 1);
        needs("PUT 76", 1, 1);
        needs("PUT 76", 1);
        needs("PUT 76");
        for (int t : new int[] {76, 80, 140, 204, 208, 5}) makes("SIZE", of(2, t), 2, 1);
        needs("SIZE", 16);
        needs("SIZE", 18);
        needs("SIZE", 1);
        needs("SIZE");
    }

    /** The op has room where the STACK may count so much, and none where it may count one less. */
    private static void fits(String op, int counted, int... taken) {
        Script enough = loaded(op + " with room", counted, taken);
        enough.code(op + "; GIVE").passes();
        Script little = loaded(op + " without room", counted - 1, taken);
        little.code(op + "; GIVE").verify(3, taken.length);
    }

    private static void room() {
        fits("PUSH 1", 1);
        fits("PUSH 3", 2);
        fits("PUSH 4", 4, 3);
        fits("PUSH 5", 12, 3, 4, 3, 4, 3, 1);
        fits("LOAD 0", 4, 3);
        fits("DUP", 3, 1, 1);
        fits("OVER", 5, 3, 1, 1);
        fits("DUP2", 4, 1, 1);
        fits("DUP2", 4, 3);
        fits("CHANGE 1 3", 2, 1);
        fits("GET 0 3", 2, 16);
        fits("CALL 1 4", 3, 1, 1);
        fits("NEW 0", 3, 3);
        fits("SUB 2", 2, 1);
        Script s = new Script("what is needed comes before the room");
        s.begin(0, 1, 0).code("LOAD 0; GIVE").verify(2, 0);
        s.begin(0, 1, 0).code("DUP; GIVE").verify(2, 0);
        s.begin(0, 1, 1).code("PUSH 1; CALL 16 3; GIVE").verify(2, 1);
        s.begin(0, 0, 12).code("PUSH 1; DUP; DUP2; DUP2; DUP2; DUP2; DUP2; GIVE").passes();
        s.stack(7, 1, 1, 1, 1, 1, 1, 1, 1, 1, 1, 1, 1);
        s.begin(0, 0, 12).code("PUSH 3; PUSH 3; PUSH 3; PUSH 3; PUSH 3; PUSH 3; PUSH 1; GIVE").verify(3, 6).stack(6, 3, 3, 3, 3, 3, 3);
    }

    private static void slots() {
        Script s = new Script("slots");
        s.begin(0, 2, 2, 1).code("LOAD 0; GIVE; GIVE").passes();
        s.locals(1, 1, 0).stack(1, 1).subs(1);
        for (int slot : new int[] {-1, 12, 15, 17, 27, 28, 31, 34, 39, 40, 45, 46, 99,
            Integer.MIN_VALUE, Integer.MAX_VALUE}) {
            s.state(1, slot, -1);
        }
        for (int k : new int[] {-1, 2, 3, 47, 48, Integer.MIN_VALUE, Integer.MAX_VALUE}) {
            s.state(k, 0, -1).state(k, 32, -1).state(k, 33, -1);
        }
        s.state(0, 32, 0).state(0, 33, 0).state(0, 16, -1);
        s.begin(0, 12, 12, 1, 1, 1, 1, 1, 1).code("GIVE").passes();
        s.locals(0, 1, 1, 1, 1, 1, 1, 0, 0, 0, 0, 0, 0);
        // LOCALS beyond those of THE METHOD are slots too, and nothing is left in them from the METHOD before.
        s.begin(0, 1, 2, 2).code("NOP; GIVE").passes().locals(0, 2).locals(1, 2);
        s.begin(0, 0, 0).code("NOP").verify(5, 0).locals(0);
        s.begin(0, 12, 2, 1, 1, 1, 1, 1, 1).code("PUSH 3; STORE 10; PUSH 2; STORE 9; GIVE").passes();
        s.locals(4, 1, 1, 1, 1, 1, 1, 0, 0, 0, 2, 3, 0).begin(0, 0, 0).code("GIVE").passes().locals(0);
        new Script("LOCALS of a new object").code("NOP").verify(5, 0).locals(0).state(1, 0, -1);
    }
}
