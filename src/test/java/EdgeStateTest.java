/** The boundary cases of promise 10, a sentence each: slots that are none, full STATES, WIDE ones, what is TOUCHED. */
public final class EdgeStateTest {
    private static final int[] FAR = {Integer.MIN_VALUE, Integer.MIN_VALUE + 16, -65536, 1 << 16, 1 << 30, Integer.MAX_VALUE};

    public static void main(String[] args) {
        noState();
        localSlots();
        stackSlots();
        stackCountsThings();
        otherSlots();
        subsByNumbers();
        sixSubsAreShown();
        touchedSums();
        latestVerify();
        wideArguments();
        wideAtTheLastLocal();
        wideInFront();
        wideOnTheStack();
        wideJoined();
        Script.end();
    }

    /** "REFUSED if it has none": before any verify(), where nothing goes to, behind the last one, without FORM. */
    private static void noState() {
        Script s = new Script("no STATE");
        int[] slots = {0, 11, 16, 32, 33, 34, 40};
        for (int slot : slots) s.state(0, slot, -1).state(47, slot, -1);
        s.code("NOP; GIVE");
        for (int slot : slots) s.state(0, slot, -1);
        s.code("GIVE").passes().state(0, 32, 0).state(1, 32, 0);
        for (int k : new int[] {-2, -1, 2, 3, 46, 47, 48, 49, 63, 64}) {
            for (int slot : slots) s.state(k, slot, -1);
        }
        for (int k : FAR) s.state(k, 0, -1).state(k, 32, -1);
        s.due("change", s.gate.change(0, 1, 0, 0), 0).verify(1, 0);
        for (int slot : slots) s.state(0, slot, -1).state(1, slot, -1);
    }

    /** "slot 0..11: LOCALS", however many THE METHOD has. */
    private static void localSlots() {
        for (int locals = 0; locals <= 12; locals++) {
            Script s = new Script("slots of " + locals + " LOCALS");
            s.begin(0, locals, 1);
            for (int i = 0; i < locals; i++) s.code("PUSH " + (i % 2 + 1) + "; STORE " + i);
            s.code("GIVE").passes().locals(0);
            for (int slot = 0; slot < 12; slot++) s.state(2 * locals, slot, slot < locals ? slot % 2 + 1 : 0);
            for (int slot = 12; slot < 16; slot++) s.state(2 * locals, slot, -1).state(0, slot, -1);
            s.state(0, -1, -1).state(0, -16, -1);
        }
    }

    /** "16 + k: the k-th (0 lowest) on the STACK": from none to twelve, and no slot above the top. */
    private static void stackSlots() {
        Script s = new Script("slots of the STACK");
        s.begin(0, 0, 12);
        for (int k = 0; k < 12; k++) s.code("PUSH " + (k % 3 == 0 ? 1 : k % 3 == 1 ? 2 : 5));
        s.code("GIVE").passes();
        for (int depth = 0; depth <= 12; depth++) {
            s.state(depth, 32, depth);
            for (int k = 0; k < depth; k++) s.state(depth, 16 + k, k % 3 == 0 ? 1 : k % 3 == 1 ? 2 : 5);
            for (int slot = 16 + depth; slot < 32; slot++) s.state(depth, slot, -1);
        }
        // What was there before it was taken is there no more.
        s.begin(0, 0, 2).code("PUSH 1; PUSH 2; POP; POP; GIVE").passes();
        s.stack(2, 1, 2).stack(3, 1).stack(4).state(4, 17, -1);
    }

    /** "32: how many are on the STACK": WIDE ones are one each there, though they count two for the limit. */
    private static void stackCountsThings() {
        Script s = new Script("how many on the STACK");
        s.begin(0, 0, 12).code("PUSH 3; PUSH 4; PUSH 3; PUSH 4; PUSH 3; PUSH 4; GIVE").passes();
        s.stack(6, 3, 4, 3, 4, 3, 4);
        s.begin(0, 0, 0).code("NOP; GIVE").passes().stack(0).stack(1);
    }

    /** "REFUSED .. for others": between the slots, above them and below. */
    private static void otherSlots() {
        Script s = new Script("other slots");
        s.begin(0, 12, 12).code("SUB 1; GIVE").passes().subs(1, 1, 0).stack(1, 2001);
        for (int slot = -3; slot <= 70; slot++) {
            boolean there = slot >= 0 && slot < 12 || slot == 16 || slot == 32 || slot == 33 || slot == 34 || slot == 40;
            if (!there) s.state(1, slot, -1);
        }
        for (int slot : FAR) s.state(1, slot, -1).state(0, slot, -1);
        for (int slot = 34; slot <= 47; slot++) s.state(0, slot, -1);
    }

    /** "the j-th of these (by numbers)", not in the order in which they began. */
    private static void subsByNumbers() {
        Script s = new Script("SUBS by numbers");
        s.begin(0, 1, 1).code("GO 7; POP; GIVE; POP; SUB 1; POP; SUB 3; SUB 5").passes().count(7, 3);
        s.subs(5, 5, 0).subs(3, 3, 0, 5, 0).subs(1, 1, 0, 3, 0, 5, 0).subs(2, 1, 0, 3, 0, 5, 0);
        // SUBROUTINE 0 and the last INSTRUCTION as one.
        s.begin(0, 1, 2, 1).code("GO 1; LOAD 0; IF 4; GIVE; SUB 5; GIVE").passes().subs(5, 5, 0);
        s.begin(0, 1, 2, 1).code("PUSH 5; IFREF 4; SUB 3; GIVE; GIVE").passes().subs(3, 3, 0).subs(4);
        Script last = new Script("the SUBROUTINE that begins at 47");
        last.begin(0, 1, 1).code("SUB 47");
        for (int k = 1; k < 47; k++) last.code("NOP");
        last.code("GIVE").passes().subs(47, 47, 0).stack(47, 2047).count(5, 2).count(7, 1);
        Script first = new Script("the SUBROUTINE that begins at 0");
        first.begin(0, 1, 1, 1).code("NOP; LOAD 0; IF 5; GIVE; GIVE; SUB 0").verify(4, 0).subs(0).count(7, 1);
    }

    /** "34 + j (j 0 to 5)": with six all are shown, of seven and more the first six. */
    private static void sixSubsAreShown() {
        for (int many : new int[] {0, 1, 5, 6, 7, 8, 23}) {
            Script s = new Script(many + " SUBS");
            s.begin(0, 12, 1);
            for (int j = 0; j < many; j++) s.code("SUB " + (2 * j + 1) + "; STORE " + j % 12);
            s.code("GIVE").passes().state(2 * many, 33, many).count(7, many);
            for (int j = 0; j < 6; j++) {
                int touched = 0;
                for (int i = j; i < many; i++) touched |= 1 << i % 12;
                s.state(2 * many, 34 + j, j < many ? 2 * j + 1 : -1).state(2 * many, 40 + j, j < many ? touched : -1);
            }
            s.state(2 * many, 46, -1);
        }
    }

    /** "as the sum of 2^LOCAL": none, LOCAL 0 alone, LOCAL 11 alone, all twelve, and both of a WIDE one. */
    private static void touchedSums() {
        Script s = new Script("TOUCHED");
        s.begin(0, 12, 2).code("SUB 1; NOP; GIVE").passes().subs(1, 1, 0).subs(2, 1, 0);
        s.begin(0, 12, 2).code("SUB 1; STORE 0; GIVE").passes().subs(2, 1, 1);
        s.begin(0, 12, 2).code("SUB 1; STORE 11; GIVE").passes().subs(2, 1, 2048);
        s.begin(0, 12, 3).code("SUB 1; PUSH 3; STORE 10; GIVE").passes();
        s.subs(3, 1, 3072).locals(3, 0, 0, 0, 0, 0, 0, 0, 0, 0, 0, 3);
        s.begin(0, 12, 3, 4).code("SUB 1; LOAD 0; GIVE").passes().subs(2, 1, 3);
        s.begin(0, 12, 3, 1).code("SUB 1; ADD 0; GIVE").passes().subs(2, 1, 1);
        s.begin(0, 12, 3, 3).code("SUB 1; PUSH 1; STORE 1; GIVE").passes().subs(3, 1, 2).locals(3, 0, 1);
        Script all = new Script("all LOCALS TOUCHED");
        all.begin(0, 12, 3).code("SUB 1");
        for (int i = 0; i < 12; i++) all.code("PUSH 1; STORE " + i);
        all.code("GIVE").passes().subs(25, 1, 4095).subs(1, 1, 0);
    }

    /** "as the latest verify() found it": one that ended with a FAULT, too, and whatever was told since. */
    private static void latestVerify() {
        Script s = new Script("the latest verify()");
        s.begin(0, 1, 2, 1).code("LOAD 0; NOP; POP; POP; GIVE").verify(2, 3);
        s.stack(1, 1).stack(2, 1).stack(3).state(4, 32, -1);
        s.due("change", s.gate.change(3, 0, 0, 0), 4).stack(2, 1).state(4, 32, -1).due("place", s.gate.place(), 3);
        s.passes().stack(4).count(5, 5);
        s.due("REFUSED", s.gate.add(31, 0, 0), -1).due("REFUSED", s.gate.begin(5, 0, 0), -1).stack(4).count(5, 5);
        s.begin(0, 0, 0).stack(4).stack(1, 1).locals(1, 1).count(5, 5).due("place", s.gate.place(), -1);
        s.verify(1, 0).state(4, 32, -1).state(0, 0, -1).count(5, 0);
    }

    /** "ARGUMENTS (TYPES, LOCALS from 0 on)": WIDE ones take two, up to the last LOCAL. */
    private static void wideArguments() {
        Script s = new Script("WIDE ARGUMENTS");
        for (int wide = 3; wide <= 4; wide++) {
            s.begin(0, 2, 0, wide).code("GIVE").passes().locals(0, wide, 0);
            s.begin(0, 1, 0, wide).code("GIVE").verify(1, 200);
            s.begin(0, 3, 0, 1, wide).code("GIVE").passes().locals(0, 1, wide, 0);
            s.begin(0, 2, 0, 1, wide).code("GIVE").verify(1, 200);
            s.begin(0, 3, 0, wide, 1).code("GIVE").passes().locals(0, wide, 0, 1);
        }
        s.begin(0, 12, 2, 3, 4, 3, 4, 3, 4).code("LOAD 10; GIVE").passes();
        s.locals(1, 3, 0, 4, 0, 3, 0, 4, 0, 3, 0, 4, 0).stack(1, 4);
        s.begin(0, 11, 2, 3, 4, 3, 4, 3, 4).code("GIVE").verify(1, 200);
        s.begin(0, 11, 2, 3, 4, 3, 4, 3, 1).code("LOAD 10; GIVE").passes().stack(1, 1);
    }

    /** "of WIDE ones a + 1 must be below LOCALS, too": the last LOCAL takes none. */
    private static void wideAtTheLastLocal() {
        for (int locals = 1; locals <= 12; locals++) {
            Script s = new Script("WIDE ones in " + locals + " LOCALS");
            for (int wide = 3; wide <= 4; wide++) {
                s.begin(0, locals, 2).code("PUSH " + wide + "; STORE " + (locals - 1) + "; GIVE").verify(2, 1);
                s.stack(1, wide);
                s.begin(0, locals, 2).code("PUSH 1; STORE " + (locals - 1) + "; GIVE").passes().state(2, locals - 1, 1);
                if (locals == 1) continue;
                int last = locals - 2;
                s.begin(0, locals, 2).code("PUSH " + wide + "; STORE " + last + "; LOAD " + last + "; GIVE").passes();
                s.state(2, last, wide).state(2, last + 1, 0).stack(3, wide);
                s.begin(0, locals, 2).code("PUSH " + wide + "; STORE " + last + "; LOAD " + (last + 1) + "; GIVE");
                s.verify(2, 2);
            }
        }
    }

    /** "when a LOCAL gets something, and the one in front of it has a WIDE one, that has NOTHING then". */
    private static void wideInFront() {
        for (int at = 0; at <= 10; at++) {
            Script s = new Script("WIDE one in LOCAL " + at);
            String wide = "PUSH 3; STORE " + at + "; PUSH 5; STORE ";
            // Behind its second LOCAL, and in front of it, what is stored leaves it alone.
            if (at < 10) {
                s.begin(0, 12, 2).code(wide + (at + 2) + "; GIVE").passes();
                s.state(4, at, 3).state(4, at + 1, 0).state(4, at + 2, 5);
            }
            if (at > 0) s.begin(0, 12, 2).code(wide + (at - 1) + "; GIVE").passes().state(4, at, 3).state(4, at - 1, 5);
            s.begin(0, 12, 2).code(wide + (at + 1) + "; GIVE").passes().state(4, at, 0).state(4, at + 1, 5);
            s.begin(0, 12, 2).code(wide + at + "; GIVE").passes().state(4, at, 5).state(4, at + 1, 0);
            s.begin(0, 12, 2).code(wide + (at + 1) + "; LOAD " + at + "; GIVE").verify(2, 4);
            if (at == 10) continue;
            // A WIDE one over the second half of another, and over its front.
            s.begin(0, 12, 2).code("PUSH 3; STORE " + at + "; PUSH 4; STORE " + (at + 1) + "; GIVE").passes();
            s.state(4, at, 0).state(4, at + 1, 4).state(4, at + 2, 0);
            s.begin(0, 12, 2).code("PUSH 3; STORE " + (at + 1) + "; PUSH 4; STORE " + at + "; GIVE").passes();
            s.state(4, at, 4).state(4, at + 1, 0).state(4, at + 2, 0);
        }
    }

    /** "they count two on the STACK": with two left there is room for one, with one left there is none. */
    private static void wideOnTheStack() {
        for (int stack = 0; stack <= 12; stack++) {
            Script s = new Script("WIDE ones on a STACK of " + stack);
            for (int below = 0; below <= stack; below++) {
                StringBuilder code = new StringBuilder();
                for (int i = 0; i < below; i++) code.append("PUSH 1; ");
                s.begin(0, 0, stack).code(code + "PUSH 4; GIVE");
                if (below + 2 <= stack) s.passes().state(below + 1, 16 + below, 4);
                else s.verify(3, below).state(below, 32, below).state(below + 1, 32, -1);
            }
        }
        // An INT that becomes WIDE, and a WIDE one that becomes an INT, at the limit.
        for (int wide = 3; wide <= 4; wide++) {
            Script s = new Script("at the limit of the STACK with " + wide);
            s.begin(0, 0, 1).code("PUSH 1; CHANGE 1 " + wide + "; GIVE").verify(3, 1);
            s.begin(0, 0, 2).code("PUSH 1; CHANGE 1 " + wide + "; CHANGE " + wide + " " + (7 - wide) + "; GIVE").passes();
            s.stack(3, 7 - wide);
            s.begin(0, 0, 2).code("PUSH " + wide + "; CHANGE " + wide + " 1; PUSH 1; GIVE").passes().stack(3, 1, 1);
            s.begin(0, 0, 4).code("PUSH " + wide + "; DUP2; MATH " + wide + "; DUP2; COMPARE " + wide + "; PUSH 1; GIVE");
            s.passes();
            s.stack(2, wide, wide).stack(5, 1).stack(6, 1, 1);
            s.begin(0, 0, 3).code("PUSH " + wide + "; DUP2; GIVE").verify(3, 1);
            s.begin(0, 2, 3, wide).code("PUSH 1; LOAD 0; GIVE").passes().stack(2, 1, wide);
            s.begin(0, 2, 2, wide).code("PUSH 1; LOAD 0; GIVE").verify(3, 1);
            s.begin(wide, 2, 2, wide).code("LOAD 0; GIVE").passes();
        }
    }

    /** A WIDE one JOINED with another TYPE is NOTHING and counts one: there is room for one more then. */
    private static void wideJoined() {
        Script s = new Script("WIDE ones JOINED");
        s.begin(0, 1, 2, 1).code("LOAD 0; IF 4; PUSH 3; GO 5; PUSH 4; PUSH 1; GIVE").passes();
        s.stack(5, 0).stack(6, 0, 1);
        s.begin(0, 1, 2, 1).code("LOAD 0; IF 5; PUSH 3; PUSH 1; GIVE; PUSH 4; GO 3").verify(3, 3).stack(3, 3);
        s.begin(0, 1, 2, 1).code("LOAD 0; IF 5; PUSH 3; GO 6; NOP; PUSH 4; GIVE").passes().stack(6, 0);
        s.begin(0, 1, 2, 1).code("LOAD 0; IF 4; PUSH 1; GO 5; PUSH 4; PUSH 1; GIVE").passes();
        s.stack(5, 0).stack(6, 0, 1);
        s.begin(0, 3, 2, 1, 3).code("LOAD 0; IF 4; PUSH 4; STORE 1; GIVE").passes().locals(4, 1, 0, 0);
    }
}
