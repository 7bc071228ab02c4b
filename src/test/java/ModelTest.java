import java.util.Random;

/**
 * All promises: METHODS made by chance and mended where they fail, each answer held against the model's. When an object
 * has no calls left, another one is made that is told the same.
 */
public final class ModelTest {
    private static final int ROUNDS = 1500, MENDINGS = 120, SOME = 60;

    /** What another METHOD leaves in the object: SUBS, what was TOUCHED, a RAW one, a WIDE one, a RETURN. */
    private static final int[][] EARLIER = {
        {1, 3, 0}, {3, 10, 0}, {15, 0, 3}, {3, 5, 0}, {20, 0, 0}, {3, 6, 0}, {15, 0, 7}, {3, 7, 0}, {18, 0, 0},
        {19, 0, 0}};

    /** A SUBROUTINE that is left out of another one that it began, and then a RET of that one (FAULT 7). */
    private static final int[][] OUT_OF_TWO = {
        {15, 0, 3}, {16, 0, 0}, {18, 0, 0}, {3, 1, 0}, {15, 0, 5}, {3, 0, 0}, {16, 1, 0}};

    private final int seed;
    private final Random chance;
    private final Model model = new Model();
    private Script script;
    private FlowGate gate;
    private int passed;

    private ModelTest(int seed) {
        this.seed = seed;
        chance = new Random(seed);
    }

    public static void main(String[] args) {
        int[] faults = new int[10];
        for (int seed = 0; seed < ROUNDS; seed++) new ModelTest(seed).run(faults);
        Script seen = new Script("what was seen");
        for (int fault = 0; fault <= 8; fault++) seen.due("FAULT " + fault + " often enough", faults[fault] >= 20 ? 1 : 0, 1);
        Script.end();
    }

    private void run(int[] faults) {
        classes();
        method();
        renew();
        types();
        for (int i = 0; i < MENDINGS; i++) {
            int fault = verify();
            faults[fault]++;
            mend(fault);
        }
    }

    private void classes() {
        int many = chance.nextInt(9);
        for (int i = 0; i < many; i++) {
            model.supers.add(chance.nextInt(model.supers.size()));
            model.interfaces.add(chance.nextInt(4) == 0);
        }
    }

    /** Another object that has been told all that the model has. */
    private void renew() {
        script = new Script("seed " + seed);
        gate = script.gate;
        passed = 0;
        for (int c = 2; c < model.supers.size(); c++) {
            script.due("cls", gate.cls(model.supers.get(c), model.interfaces.get(c)), c);
        }
        if (chance.nextInt(3) == 0) tellEarlier();
        script.due("begin", gate.begin(model.result, model.locals, model.stack), 1);
        for (int i = 0; i < model.arguments.size(); i++) script.due("argument", gate.argument(model.arguments.get(i)), i + 1);
        tell(model.code.toArray(new int[0][]));
        for (int h = 0; h < model.handlers.size(); h++) {
            int[] x = model.handlers.get(h);
            script.due("handler", gate.handler(x[0], x[1], x[2], x[3]), h + 1);
        }
    }

    private void tellEarlier() {
        script.due("begin", gate.begin(0, 12, 12), 1);
        script.due("argument", gate.argument(4), 1);
        tell(EARLIER);
        script.due("handler", gate.handler(0, 4, 9, 1), 1);
        script.due("verify()", gate.verify(), 0);
        passed++;
    }

    private void tell(int[][] code) {
        for (int k = 0; k < code.length; k++) script.due("add", gate.add(code[k][0], code[k][1], code[k][2]), k);
    }

    private void types() {
        for (int i = 0; i < 20; i++) {
            int a = chance.nextInt(8) == 0 ? chance.nextInt(6) : ref();
            int b = chance.nextInt(8) == 0 ? chance.nextInt(6) : ref();
            script.due("join(" + a + ", " + b + ")", gate.join(a, b), model.join(a, b));
            script.due("goes(" + a + ", " + b + ")", gate.goes(a, b), model.goes(a, b) ? 1 : 0);
        }
    }

    private int ref() {
        int dimensions = chance.nextInt(3) == 0 ? 1 + chance.nextInt(3) : 0;
        if (dimensions > 0 && chance.nextInt(3) == 0) return 64 * dimensions + 12;
        return 64 * dimensions + 16 + chance.nextInt(model.supers.size());
    }

    private int value() {
        return chance.nextInt(2) == 0 ? ref() : 1 + chance.nextInt(4);
    }

    private void method() {
        model.result = chance.nextInt(3) == 0 ? value() : 0;
        model.locals = 2 + chance.nextInt(chance.nextInt(3) == 0 ? 11 : 4);
        model.stack = 1 + chance.nextInt(chance.nextInt(3) == 0 ? 12 : 5);
        int room = model.locals - chance.nextInt(2);
        for (int i = 0; i < 6; i++) {
            int type = chance.nextInt(2) == 0 ? 1 : value();
            room -= Model.wide(type) ? 2 : 1;
            if (room < 0) break;
            model.arguments.add(type);
        }
        int size = 4 + chance.nextInt(chance.nextInt(3) == 0 ? 45 : 14);
        for (int k = 0; k < size; k++) model.code.add(instruction(k, size));
        if (size >= OUT_OF_TWO.length && model.stack > 1 && chance.nextInt(4) == 0) {
            for (int k = 0; k < OUT_OF_TWO.length; k++) model.code.set(k, OUT_OF_TWO[k]);
        }
        int subroutines = chance.nextInt(3);
        for (int i = 0; i < subroutines; i++) subroutine(size);
        int handlers = chance.nextInt(2) == 0 ? 0 : chance.nextInt(4);
        for (int h = 0; h < handlers; h++) handler(size);
    }

    /** Chance alone makes few that come back: a STORE where it begins, a RET of the same LOCAL, and SUBS of it. */
    private void subroutine(int size) {
        int begins = chance.nextInt(size);
        int local = chance.nextInt(model.locals);
        int many = 1 + chance.nextInt(3);
        for (int i = 0; i < many; i++) model.code.set(chance.nextInt(size), new int[] {15, 0, begins});
        model.code.set(begins, new int[] {3, local, 0});
        model.code.set(Math.min(size - 1, begins + 1 + chance.nextInt(6)), new int[] {16, local, 0});
    }

    private void handler(int size) {
        int from = chance.nextInt(size);
        int to = from + 1 + chance.nextInt(size - from);
        int at = chance.nextInt(size);
        int c = chance.nextInt(3) == 0 ? chance.nextInt(model.supers.size()) : 1;
        model.handlers.add(new int[] {from, to, at, model.below(c, 1) || chance.nextInt(20) == 0 ? c : 1});
    }

    private int[] instruction(int k, int size) {
        int[] often = {2, 3, 12, 15, 16, 17, 14, 18, 1};
        int op = chance.nextInt(3) == 0 ? often[chance.nextInt(often.length)] : chance.nextInt(31);
        int goal = chance.nextInt(3) == 0 ? chance.nextInt(size) : Math.min(size - 1, k + 1 + chance.nextInt(6));
        if (chance.nextInt(300) == 0) return new int[] {op, chance.nextInt(300) - 20, chance.nextInt(300) - 20};
        int local = chance.nextInt(model.locals);
        int c = chance.nextInt(model.supers.size());
        switch (op) {
            case 1: return new int[] {op, chance.nextInt(2) == 0 ? 1 : 1 + chance.nextInt(5), 0};
            case 2: case 3: case 16: case 30: return new int[] {op, local, 0};
            case 9: return new int[] {op, 1 + chance.nextInt(4), 0};
            case 10: return new int[] {op, 1 + chance.nextInt(4), 1 + chance.nextInt(4)};
            case 11: return new int[] {op, 2 + chance.nextInt(3), 0};
            case 12: case 13: case 14: case 15: return new int[] {op, 0, goal};
            case 17: return new int[] {op, chance.nextInt(size), goal};
            case 20: case 21: return new int[] {op, c, 0};
            case 22: case 23: return new int[] {op, c, value()};
            case 24: return new int[] {op, value(), value()};
            case 25: return new int[] {op, ref(), 0};
            case 26: return new int[] {op, chance.nextInt(3) == 0 ? 12 : ref() % 192, 0};
            case 27: case 28: return new int[] {op, ref() % 192 + 64 * (1 - ref() / 192), 0};
            default: return new int[] {op, 0, 0};
        }
    }

    private int verify() {
        if (script.left() < 10) renew();
        int fault = model.verify();
        verifyAlike();
        script.due("place()", gate.place(), model.place);
        script.count(0, model.supers.size()).count(1, model.code.size()).count(2, model.handlers.size());
        script.count(3, model.arguments.size()).count(4, model.looked).count(5, model.states.size());
        script.count(6, passed).count(7, model.begunSubs());
        if (chance.nextInt(4) == 0) allStates();
        else someStates();
        return fault;
    }

    private void verifyAlike() {
        script.due("verify()", gate.verify(), model.fault);
        if (model.fault == 0) passed++;
    }

    private void allStates() {
        for (int k = -1; k <= model.code.size(); k++) {
            for (int slot = -1; slot <= 46; slot++) state(k, slot);
        }
    }

    private void someStates() {
        for (int i = 0; i < SOME; i++) state(chance.nextInt(model.code.size()), chance.nextInt(48) - 1);
    }

    private void state(int k, int slot) {
        if (script.left() == 0) {
            renew();
            verifyAlike();
        }
        script.state(k, slot, model.state(k, slot));
    }

    /** Another INSTRUCTION where the FAULT is, or anywhere if there is none to mend. */
    private void mend(int fault) {
        int size = model.code.size();
        boolean there = fault > 0 && model.place < size && chance.nextInt(8) > 0;
        int k = there ? model.place : chance.nextInt(size);
        if (script.left() == 0) renew();
        int[] made = instruction(k, size);
        int before = model.code.set(k, made)[0];
        script.due("change", gate.change(k, made[0], made[1], made[2]), before);
    }
}
