/** Promises 8 to 10 and 13: SUBROUTINES, what is TOUCHED in them, and FAULTS 6 and 7. */
public final class SubTest {
    public static void main(String[] args) {
        untouched();
        touching();
        nested();
        again();
        back();
        leaving();
        raw();
        many();
        Script.end();
    }

    private static void untouched() {
        Script s = new Script("untouched");
        // One SUBROUTINE for an INT and for a FLOAT in LOCAL 1: each is there again behind its SUB.
        s.begin(0, 2, 2, 1).code("PUSH 1; STORE 1; SUB 7; PUSH 2; STORE 1; SUB 7; GIVE; STORE 0; RET 0").passes();
        s.locals(3, 0, 1).locals(6, 0, 2).locals(7, 0, 0).locals(8, 2007, 0).subs(8, 7, 1).subs(3).subs(6);
        s.stack(7, 2007).stack(8).stack(3).stack(6).count(7, 1);
        // 0 1 2 7 8 | 3 4 5, then 7 (LOCALS became others) and 8, then 6.
        s.count(4, 11);
        // One that is TOUCHED is behind both what it is at the RET.
        s.begin(0, 2, 2, 1).code("PUSH 1; STORE 1; SUB 7; PUSH 2; STORE 1; SUB 7; GIVE; STORE 0; PUSH 5; STORE 1; RET 0");
        s.passes().locals(3, 0, 5).locals(6, 0, 5).subs(10, 7, 3);
        // What is on the STACK below the RETURN must be there for both SUBS.
        s.begin(0, 1, 3).code("SUB 4; PUSH 3; SUB 4; GIVE; STORE 0; RET 0").verify(4, 4);
        s.begin(0, 1, 3).code("PUSH 1; SUB 5; CHANGE 1 2; SUB 5; GIVE; STORE 0; RET 0").verify(2, 2);
        // A RETURN that stays on the STACK is NOTHING behind the SUB.
        s.begin(0, 1, 3).code("SUB 2; GIVE; DUP; STORE 0; RET 0").passes().stack(1, 0).stack(4, 2002).locals(1, 0);
        // The STACK is that at the RET.
        s.begin(0, 1, 3).code("SUB 2; GIVE; STORE 0; PUSH 3; RET 0").passes().stack(1, 3);
    }

    private static void touching() {
        Script s = new Script("touching");
        s.begin(0, 12, 3, 1, 3, 2).code("SUB 2; GIVE; STORE 11; LOAD 0; POP; LOAD 1; STORE 5; ADD 0; RET 11").passes();
        s.subs(2, 2, 0).subs(3, 2, 2048).subs(4, 2, 2049).subs(6, 2, 2048 + 7).subs(7, 2, 2048 + 7 + 96);
        s.subs(8, 2, 2048 + 7 + 96).locals(1, 1, 3, 0, 2, 0, 3, 0, 0, 0, 0, 0, 0);
        s.begin(0, 2, 3, 1).code("SUB 2; GIVE; STORE 1; ADD 0; RET 1").passes().subs(3, 2, 2).subs(4, 2, 3);
        // Nothing is TOUCHED outside of SUBS, and POP or DUP TOUCH none.
        s.begin(0, 2, 3, 1).code("ADD 0; GIVE").passes().subs(1);
        // The one in front that is WIDE no more is not TOUCHED: it is behind the SUB as it was there.
        s.begin(0, 3, 3, 3).code("SUB 2; GIVE; STORE 2; PUSH 1; STORE 1; RET 2").passes();
        s.locals(5, 0, 1, 2002).subs(5, 2, 6).locals(1, 3, 1, 0);
        // What is MET from two ways is TOUCHED in either.
        s.begin(0, 3, 3, 1).code("SUB 2; GIVE; STORE 2; LOAD 0; IF 7; PUSH 1; STORE 1; RET 2").passes();
        s.subs(7, 2, 7).locals(7, 1, 0, 2002).locals(1, 1, 0, 0);
    }

    private static void nested() {
        Script s = new Script("nested");
        s.begin(0, 4, 3, 1).code("SUB 2; GIVE; STORE 2; SUB 5; RET 2; STORE 3; ADD 0; RET 3").passes();
        s.subs(5, 2, 4, 5, 0).subs(6, 2, 12, 5, 8).subs(7, 2, 13, 5, 9).subs(4, 2, 13).subs(1).count(7, 2);
        s.locals(4, 1, 0, 2002, 0).locals(1, 1, 0, 0, 0);
        // RET of the outer one out of the inner one leaves both.
        s.begin(0, 4, 3, 1).code("SUB 2; GIVE; STORE 2; SUB 5; NOP; STORE 3; RET 2").passes();
        s.state(4, 32, -1).subs(1).locals(1, 1, 0, 0, 2005);
        // What the RET itself TOUCHES is TOUCHED in those that are still going on.
        s.begin(0, 4, 3, 1).code("SUB 2; GIVE; STORE 2; SUB 5; RET 2; STORE 2; RET 2").verify(2, 4);
        s.locals(4, 1, 0, 0, 0).subs(4, 2, 4);
    }

    private static void again() {
        Script s = new Script("again");
        s.begin(0, 2, 2).code("SUB 1; STORE 0; SUB 1; RET 0").verify(6, 2);
        s.begin(0, 2, 2).code("SUB 2; GIVE; STORE 0; SUB 5; RET 0; STORE 1; SUB 2").verify(6, 6);
        // 6 before 3.
        s.begin(0, 2, 1).code("SUB 1; SUB 1; GIVE").verify(6, 1);
        s.begin(0, 2, 0).code("SUB 1; GIVE").verify(3, 0);
        s.begin(0, 2, 1).code("SUB 1; SUB 2; GIVE").verify(3, 1);
        // 3 before 8, and 8 before 4.
        s.begin(0, 2, 1).code("NOP; NEW 0; SUB 0").verify(3, 2);
        s.begin(0, 2, 2).code("NOP; NEW 0; SUB 0").verify(8, 2);
        s.begin(0, 2, 2).code("NOP; PUSH 1; SUB 0").verify(4, 0);
        // Going round without a RET, the SUBROUTINE is still gone through.
        s.begin(0, 2, 2).code("NOP; SUB 2; STORE 0; GO 0").passes().subs(2, 2, 0).subs(0).locals(0, 0, 0);
    }

    private static void back() {
        Script s = new Script("back");
        // RET of 3 out of 5, which 3 began: its RETURN stays in LOCAL 0 where 5 is in SUBS no more.
        s.begin(0, 2, 2).code("SUB 3; RET 0; GIVE; STORE 1; SUB 5; STORE 0; RET 1").verify(7, 1);
        s.locals(1, 2005, 0).subs(1).subs(6, 3, 3, 5, 1);
        // 2 before 7, and RET takes a RETURN alone.
        s.begin(0, 2, 2, 1).code("RET 0; GIVE").verify(2, 0);
        s.begin(0, 2, 2).code("SUB 1; STORE 0; RET 1").verify(2, 2);
        // RET to behind the last one, its INSTRUCTION being the place.
        s.begin(0, 1, 1).code("GO 3; STORE 0; RET 0; SUB 1").verify(5, 2);
        // Two ways within one SUBROUTINE that come together at its RET.
        s.begin(0, 2, 2, 1).code("SUB 2; GIVE; STORE 1; LOAD 0; IF 6; GO 7; GO 7; RET 1").passes().subs(7, 2, 3);
        // Two SUBROUTINES that come together: there is neither of them, and NOTHING in LOCAL 1.
        s.begin(0, 2, 2, 1).code("LOAD 0; IF 4; SUB 6; GIVE; SUB 8; GIVE; STORE 1; GO 9; STORE 1; RET 1");
        s.verify(2, 9).locals(9, 1, 0).subs(9);
    }

    private static void leaving() {
        Script s = new Script("leaving");
        // A SUB that is MET after the RET was done wakes the RET, though nothing became another at its goal.
        s.begin(0, 1, 1).code("SUB 3; SUB 3; GIVE; STORE 0; RET 0").passes().count(4, 6).locals(2, 0);
        // SUB directly behind SUB, and a RET in front of its SUBS.
        s.begin(0, 1, 1).code("GO 3; STORE 0; RET 0; SUB 1; SUB 1; GIVE").passes().locals(4, 0).locals(5, 0).count(7, 1);
        // Two RETS of one SUBROUTINE: what they bring is JOINED.
        s.begin(0, 3, 2, 1, 1).code("SUB 2; GIVE; STORE 2; LOAD 0; IF 8; PUSH 5; STORE 1; RET 2; RET 2").passes();
        s.locals(1, 1, 0, 0);
    }

    private static void raw() {
        Script s = new Script("raw in subs");
        // RET goes back over a RAW one that the SUBROUTINE did not TOUCH.
        s.begin(0, 2, 2).code("NEW 0; STORE 0; SUB 4; GIVE; STORE 1; RET 1").verify(8, 5);
        s.begin(0, 2, 2).code("NEW 0; SUB 3; GIVE; STORE 1; RET 1").verify(8, 4);
        s.begin(0, 2, 2).code("NEW 0; SUB 3; GIVE; STORE 1; BUILD 0; RET 1").passes().stack(2);
        // Built there but not TOUCHED it would be RAW behind the SUB.
        s.begin(0, 2, 3).code("NEW 0; DUP; STORE 0; SUB 5; GIVE; STORE 1; BUILD 0; RET 1").verify(8, 7).locals(7, 16, 2005);
        s.begin(0, 2, 3).code("NEW 0; STORE 0; SUB 4; GIVE; STORE 1; LOAD 0; BUILD 0; RET 1").passes().locals(3, 16, 0);
    }

    private static void many() {
        Script s = new Script("many");
        s.begin(0, 1, 1);
        for (int k = 0; k < 16; k++) s.code("SUB " + (2 * k + 1) + "; STORE 0");
        s.code("GIVE").passes().state(32, 33, 16).count(7, 16);
        for (int j = 0; j < 6; j++) s.state(32, 34 + j, 2 * j + 1).state(32, 40 + j, 1);
        s.state(32, 46, -1).state(3, 35, 3).state(3, 36, -1).state(3, 40, 1).state(3, 41, 0).state(3, 42, -1);
    }
}
