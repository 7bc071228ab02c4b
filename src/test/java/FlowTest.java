/** Promises 8 to 10 and 13: the order of looking, MEETING, HANDLERS, and FAULTS 4, 5, 8. */
public final class FlowTest {
    public static void main(String[] args) {
        looking();
        meeting();
        ending();
        rawBackwards();
        handlers();
        handlerFaults();
        handlerOfItself();
        verifyingAnew();
        Script.end();
    }

    private static void looking() {
        Script s = new Script("looking");
        // A loop in which nothing becomes another.
        s.begin(0, 1, 1, 1).code("NOP; LOAD 0; IF 0; GIVE").passes().count(4, 4).count(5, 4);
        // The loop changes LOCAL 0 to NOTHING: 0, 1 and 2 are looked at once more, 3 is as it was, then 5 comes.
        s.begin(0, 2, 1, 1, 1).code("NOP; PUSH 2; STORE 0; LOAD 1; IF 0; GIVE").passes();
        s.count(4, 9).locals(0, 0, 1).locals(5, 2, 1);
        // A FAULT at a lesser number is found first, though it was MET later.
        s.begin(0, 2, 2, 1).code("GO 3; LOAD 1; GIVE; LOAD 0; CHOOSE 5 1; POP").verify(2, 1).count(4, 4).count(5, 5);
        // What is never gone to has no STATE and no FAULT but of FORM.
        s.begin(0, 1, 1).code("GIVE; POP; LOAD 0").passes().count(4, 1).count(5, 1).state(1, 32, -1);
    }

    private static void meeting() {
        Script s = new Script("meeting");
        s.due("cls", s.gate.cls(0, false), 2).due("cls", s.gate.cls(2, false), 3).due("cls", s.gate.cls(2, false), 4);
        s.begin(18, 3, 2, 1, 19, 20).code("LOAD 0; IF 4; LOAD 1; GO 5; LOAD 2; GIVE").passes().stack(5, 18).count(4, 6);
        s.begin(19, 3, 2, 1, 19, 20).code("LOAD 0; IF 4; LOAD 1; GO 5; LOAD 2; GIVE").verify(2, 5).stack(5, 18);
        s.begin(19, 3, 2, 1, 19).code("LOAD 0; IF 4; LOAD 1; GO 5; PUSH 5; GIVE").passes().stack(5, 19);
        s.begin(0, 1, 2, 1).code("LOAD 0; IF 4; PUSH 1; GO 5; PUSH 3; GIVE").passes().stack(5, 0);
        // How many are on the STACK, not what they count.
        s.begin(0, 1, 2, 1).code("LOAD 0; IF 5; PUSH 1; PUSH 1; GO 6; PUSH 3; GIVE").verify(4, 6).stack(6, 1, 1);
        s.begin(0, 1, 2, 1).code("LOAD 0; IF 4; PUSH 1; GO 4; GIVE").verify(4, 4);
        s.begin(0, 1, 2).code("PUSH 1; GO 0").verify(4, 0).count(4, 2);
        // On first, then the goal.
        s.begin(0, 1, 2, 1).code("LOAD 0; DUP; IF 0; GIVE").verify(4, 0).stack(3, 1);
        s.begin(0, 1, 2, 1).code("LOAD 0; DUP; CHOOSE 3 0; GIVE").verify(4, 0).stack(3, 1);
        s.begin(0, 1, 2, 1).code("LOAD 0; DUP; CHOOSE 0 3; GIVE").verify(4, 0).state(3, 32, -1);
        // A WIDE LOCAL that is joined with a narrow one is NOTHING.
        s.begin(0, 3, 2, 1).code("LOAD 0; IF 5; PUSH 3; STORE 1; GO 7; PUSH 1; STORE 2; GIVE").passes().locals(7, 1, 0, 0);
    }

    private static void ending() {
        Script s = new Script("ending");
        s.begin(0, 1, 1).code("NOP").verify(5, 0).count(4, 1).count(6, 0);
        s.begin(0, 1, 1).code("NOP; PUSH 1; IF 0").verify(5, 2);
        s.begin(0, 1, 1).code("NOP; PUSH 5; IFREF 0").verify(5, 2);
        s.begin(0, 1, 1).code("NOP; PUSH 1; CHOOSE 0 0").passes();
        s.begin(0, 1, 1).code("NOP; GO 0").passes();
        s.begin(0, 1, 1).code("PUSH 5; THROW").passes();
        s.begin(0, 1, 1).code("SUB 0").verify(4, 0);
        s.begin(0, 1, 1).code("GIVE; NOP").passes();
        // What the last one needs is looked at before its end.
        s.begin(0, 1, 1).code("NOP; POP").verify(2, 1);
        s.begin(0, 0, 0).code("NOP; PUSH 1").verify(3, 1);
        Script full = new Script("the end of 48");
        full.begin(0, 0, 0);
        for (int k = 0; k < 48; k++) full.code("NOP");
        full.verify(5, 47).count(4, 48);
    }

    private static void rawBackwards() {
        Script s = new Script("raw backwards");
        s.begin(0, 1, 2).code("NEW 0; NOP; GO 1").verify(8, 2);
        s.begin(0, 1, 2).code("NEW 0; GO 1").verify(8, 1);
        s.begin(0, 1, 2).code("NEW 0; GO 2; GIVE").passes();
        s.begin(0, 1, 2).code("NEW 0; STORE 0; GO 2; GO 0").verify(8, 2);
        s.begin(0, 1, 2).code("NEW 0; STORE 0; PUSH 1; IF 0; GIVE").verify(8, 3).locals(4, 1000);
        s.begin(0, 1, 2).code("NEW 0; STORE 0; PUSH 1; CHOOSE 4 0; GIVE").verify(8, 3).locals(4, 1000);
        s.begin(0, 1, 2).code("NEW 0; BUILD 0; GO 0").passes();
        s.begin(0, 1, 2).code("NEW 0; DUP; STORE 0; BUILD 0; GO 0").passes().locals(0, 0).locals(4, 16);
        s.begin(0, 1, 2).code("NEW 0; POP; GO 0").passes();
        // 8 before 4, and 5 before 8.
        s.begin(0, 1, 2).code("NEW 0; GO 0").verify(8, 1);
        s.begin(0, 1, 2).code("NEW 0; NOP").verify(5, 1);
        s.begin(0, 1, 2).code("NEW 0; PUSH 1; IF 1").verify(5, 2);
    }

    private static void handlers() {
        Script s = new Script("handlers");
        s.due("cls", s.gate.cls(1, false), 2).due("cls", s.gate.cls(1, false), 3);
        // The STATE in front of what is covered, not the one behind it.
        s.begin(0, 1, 2, 1).code("PUSH 5; STORE 0; GIVE; GIVE").handler(0, 2, 3, 2).passes();
        s.locals(3, 1).stack(3, 18).count(4, 4);
        s.begin(0, 1, 2, 1).code("PUSH 5; STORE 0; GIVE; GIVE").handler(0, 3, 3, 2).passes().locals(3, 0).stack(3, 18);
        s.begin(0, 1, 2, 1).code("PUSH 5; STORE 0; GIVE; GIVE").handler(2, 3, 3, 2).passes().locals(3, 5).stack(3, 18);
        s.begin(0, 1, 2, 1).code("PUSH 5; STORE 0; GIVE; GIVE").handler(3, 4, 3, 2).passes().state(3, 32, -1);
        // Two that are MET at one place, and three in all.
        s.begin(0, 1, 2, 1).code("NOP; GIVE; THROW; THROW").handler(0, 1, 2, 2).handler(0, 1, 2, 3).handler(1, 2, 3, 3);
        s.passes().stack(2, 17).stack(3, 19);
        // By numbers: the first of them finds its FAULT first.
        s.begin(0, 1, 2, 1).code("PUSH 1; GO 3; GIVE; GIVE").handler(1, 2, 0, 1).handler(1, 2, 3, 1).verify(4, 0);
        s.state(3, 32, -1);
        s.begin(0, 1, 2, 1).code("PUSH 1; GO 3; GIVE; GIVE").handler(1, 2, 3, 1).handler(1, 2, 0, 1).verify(4, 0);
        s.stack(3, 17);
        // HANDLERS are MET before the INSTRUCTION is done.
        s.begin(0, 1, 2, 1).code("POP; GIVE; GIVE").handler(0, 1, 2, 1).verify(2, 0).stack(2, 17);
        s.begin(0, 1, 2, 1).code("POP; GIVE; GIVE").handler(0, 1, 0, 1).verify(4, 0);
        // A HANDLER in a SUBROUTINE is in it, too.
        s.begin(0, 1, 2, 1).code("SUB 2; GIVE; STORE 0; NOP; RET 0; THROW").handler(3, 4, 5, 1).passes();
        s.subs(5, 2, 1).locals(5, 2002).stack(5, 17);
    }

    private static void handlerFaults() {
        Script s = new Script("handler faults");
        s.begin(0, 1, 0).code("NOP; GIVE; GIVE").handler(0, 1, 2, 1).verify(3, 0).state(2, 32, -1);
        s.begin(0, 1, 0).code("NOP; GIVE; GIVE").handler(1, 2, 2, 1).verify(3, 1);
        s.begin(0, 1, 1).code("NEW 0; STORE 0; NOP; GIVE; GIVE").handler(0, 2, 4, 1).passes();
        s.begin(0, 1, 1).code("NEW 0; STORE 0; NOP; GIVE; GIVE").handler(0, 3, 4, 1).verify(8, 2);
        s.begin(0, 1, 1).code("NEW 0; STORE 0; NOP; GIVE; GIVE").handler(2, 3, 0, 1).verify(8, 2);
        // A RAW one on the STACK is not there any more when a HANDLER is MET.
        s.begin(0, 1, 1).code("NEW 0; NOP; GIVE; GO 3").handler(1, 2, 3, 1).passes().stack(3, 17);
        s.begin(0, 1, 1).code("NEW 0; NOP; GIVE").handler(1, 2, 2, 1).passes().stack(2, 0);
        s.begin(0, 1, 1).code("NOP; GIVE").handler(0, 1, 1, 1).verify(4, 1);
    }

    private static void handlerOfItself() {
        Script s = new Script("handler of itself");
        // The HANDLER is MET first, and what is done is done with the STATE that comes of it.
        s.begin(0, 1, 1).code("PUSH 5; NOP; GIVE").handler(1, 2, 1, 1).passes().stack(1, 17).stack(2, 17).count(4, 4);
        s.begin(0, 1, 1).code("PUSH 1; STORE 0; GIVE").handler(1, 2, 1, 1).verify(2, 1).stack(1, 0).count(4, 2);
    }

    /** Nothing is left of an earlier verify(), not even of one that ended with a FAULT. */
    private static void verifyingAnew() {
        Script s = new Script("verifying anew");
        s.begin(0, 1, 2).code("PUSH 1; IF 3; POP; GIVE").verify(2, 2).count(4, 3).stack(3);
        s.gate.change(1, Script.op("POP"), 0, 0);
        s.gate.change(2, Script.op("GIVE"), 0, 0);
        s.passes().count(4, 3).count(5, 3).state(3, 32, -1);
        s.begin(0, 1, 1, 1).code("SUB 2; GIVE; STORE 0; NOP; GIVE; THROW").handler(3, 4, 5, 1);
        for (int i = 0; i < 3; i++) s.passes().subs(0).locals(0, 1).stack(0).subs(2, 2, 0).subs(5, 2, 1).count(4, 5);
        s.gate.change(3, Script.op("POP"), 0, 0);
        s.verify(2, 3).subs(0).stack(5, 17).count(4, 3);
        s.gate.change(0, Script.op("PUSH"), 9, 0);
        s.verify(1, 0).count(4, 0).count(5, 0).count(7, 0).state(0, 33, -1);
        // What was TOUCHED in a SUBROUTINE then makes nothing another now, where a greater one is in SUBS.
        s.begin(0, 2, 2).code("SUB 1; STORE 0; NOP; GIVE; THROW").handler(2, 3, 4, 1).passes().subs(4, 1, 1);
        s.begin(0, 2, 2).code("NOP; SUB 2; STORE 1; PUSH 1; IF 3; GIVE").passes().subs(3, 2, 2).count(4, 6);
    }
}
