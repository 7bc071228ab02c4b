import java.util.Arrays;
import java.util.List;

/** A FlowGate with the answers due from it; a test makes one for each run of calls. */
final class Script {
    private static final List<String> OPS = Arrays.asList(
            "NOP", "PUSH", "LOAD", "STORE", "POP", "DUP", "OVER", "SWAP", "DUP2", "MATH", "CHANGE", "COMPARE",
            "IF", "IFREF", "GO", "SUB", "RET", "CHOOSE", "GIVE", "THROW", "NEW", "BUILD", "GET", "SET", "CALL",
            "CAST", "ROW", "AT", "PUT", "SIZE", "ADD");
    private static final int MOST_CALLS = 512;
    private static int wrong = 0;

    final FlowGate gate = new FlowGate();
    private final String name;
    private int calls = 0;

    Script(String name) {
        this.name = name;
    }

    static int op(String mnemonic) {
        int op = OPS.indexOf(mnemonic);
        if (op < 0) throw new IllegalArgumentException(mnemonic);
        return op;
    }

    /** An answer to a call; what is answered after the 512th is free, so that no test may ask for it. */
    Script due(String call, int got, int want) {
        spend();
        if (got != want) {
            wrong++;
            System.out.println(name + ": " + call + " answered " + got + ", due is " + want);
        }
        return this;
    }

    private void spend() {
        calls++;
        if (calls == MOST_CALLS + 1) {
            wrong++;
            System.out.println(name + ": the test looks at more than " + MOST_CALLS + " answers");
        }
    }

    /** How many calls the object may still be used for. */
    int left() {
        return MOST_CALLS - calls;
    }

    Script goes(int a, int b, int want) {
        return due("goes(" + a + ", " + b + ")", gate.goes(a, b), want);
    }

    /** JOINED one way and the other way round. */
    Script join(int a, int b, int want) {
        due("join(" + a + ", " + b + ")", gate.join(a, b), want);
        return due("join(" + b + ", " + a + ")", gate.join(b, a), want);
    }

    Script begin(int result, int locals, int stack, int... arguments) {
        due("begin", gate.begin(result, locals, stack), 1);
        for (int i = 0; i < arguments.length; i++) due("argument", gate.argument(arguments[i]), i + 1);
        return this;
    }

    /** Adds INSTRUCTIONS such as "PUSH 1; GO 4; GET 2 1"; a lone number of a jump is its b. */
    Script code(String text) {
        for (String line : text.split(";")) {
            String[] words = line.trim().split(" +");
            int op = op(words[0]);
            int first = words.length > 1 ? Integer.parseInt(words[1]) : 0;
            int second = words.length > 2 ? Integer.parseInt(words[2]) : 0;
            boolean jumps = op >= op("IF") && op <= op("SUB");
            int number = gate.count(1);
            spend();
            due("add " + line, gate.add(op, jumps ? 0 : first, jumps ? first : second), number);
        }
        return this;
    }

    Script handler(int from, int to, int at, int c) {
        spend();
        due("handler", gate.handler(from, to, at, c), gate.count(2));
        return this;
    }

    Script verify(int fault, int place) {
        due("verify()", gate.verify(), fault);
        return due("place()", gate.place(), place);
    }

    Script passes() {
        return verify(0, -1);
    }

    Script state(int k, int slot, int want) {
        return due("state(" + k + ", " + slot + ")", gate.state(k, slot), want);
    }

    /** The whole STACK of an INSTRUCTION, the lowest first. */
    Script stack(int k, int... want) {
        state(k, 32, want.length);
        for (int i = 0; i < want.length; i++) state(k, 16 + i, want[i]);
        return state(k, 16 + want.length, -1);
    }

    /** All LOCALS of an INSTRUCTION; those that are not told have NOTHING. */
    Script locals(int k, int... want) {
        for (int i = 0; i < 12; i++) state(k, i, i < want.length ? want[i] : 0);
        return state(k, 12, -1);
    }

    /** SUBS of an INSTRUCTION: pairs of a SUBROUTINE and what was TOUCHED in it. */
    Script subs(int k, int... want) {
        state(k, 33, want.length / 2);
        for (int j = 0; j < want.length / 2; j++) {
            state(k, 34 + j, want[2 * j]);
            state(k, 40 + j, want[2 * j + 1]);
        }
        state(k, 34 + want.length / 2, -1);
        return state(k, 40 + want.length / 2, -1);
    }

    Script count(int what, int want) {
        return due("count(" + what + ")", gate.count(what), want);
    }

    static void end() {
        System.out.println(wrong == 0 ? "all answers are as due" : wrong + " answers are not as due");
        if (wrong != 0) System.exit(1);
    }
}
