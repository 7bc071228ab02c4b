/** Promises 8, 9 and 13, FAULT 9: the most that are LOOKED AT are 2999. */
public final class LongTest {
    /**
     * A SUBROUTINE with many RETS (1 to 14), a row of SUBS of it (15 to 26), and a loop that moves six row TYPES, one
     * a little more than the other, from LOCAL to LOCAL (28 to 46), while HANDLERS tell the SUBS of each step: every
     * SUB has all RETS LOOKED AT anew. 47 is gone to by none.
     */
    private static final String SLOW =
            "GO 36; STORE 11; PUSH 1; IF 5; RET 11; PUSH 1; IF 8; RET 11; PUSH 1; IF 11; RET 11; LOAD 1"
            + "; IFREF 2; RET 11; RET 11; SUB 1; SUB 1; SUB 1; SUB 1; SUB 1; SUB 1; SUB 1; SUB 1; SUB 1"
            + "; SUB 1; SUB 1; SUB 1; STORE 9; LOAD 1; STORE 0; LOAD 2; STORE 1; LOAD 3; STORE 2; LOAD 4; STORE 3"
            + "; LOAD 0; STORE 4; LOAD 5; PUSH 1; PUSH 5; CAST 84; STORE 5; IF 31; SUB 1; STORE 5; GO 36; GO 36";

    public static void main(String[] args) {
        Script s = new Script("long");
        for (int c = 2; c < 10; c++) s.due("cls", s.gate.cls(c - 1, false), c);
        s.begin(0, 12, 12, 208, 217, 214, 211, 210, 151).code(SLOW);
        s.handler(31, 33, 15, 1).handler(35, 40, 26, 5).handler(5, 15, 14, 2);
        s.passes().count(4, 2999).count(5, 47).count(6, 1).state(47, 32, -1);
        // One more on the way to 36, and the last one that was LOOKED AT would be the 3000th.
        s.due("change", s.gate.change(0, Script.op("GO"), 0, 47), Script.op("GO"));
        s.verify(9, 46).count(4, 2999).count(5, 48).count(6, 1);
        s.due("change", s.gate.change(0, Script.op("GO"), 0, 36), Script.op("GO"));
        s.passes().count(4, 2999).count(6, 2);
        Script.end();
    }
}
