import java.util.Random;

/**
 * All promises: METHODS made by chance and mended where they fail, each answer held against the model's. An object is
 * used here for longer than the 512 calls of the document, since all slots of all STATES are looked at; the other tests
 * keep to the 512.
 */
public final class ModelTest {
    private static final int ROUNDS = 1500, MENDINGS = 120;

    /** A SUBROUTINE that is left out of another one that it began, and then a RET of that one (FAULT 7). */
    private static final int[][] OUT_OF_TWO = {
        {15, 0, 3}, {16, 0, 0}, {18, 0, 0}, {3, 1, 0}, {15, 0, 5}, {3, 0, 0}, {16, 1, 0}};

    private final Random chance;
    private final Script script;
    private final FlowGate gate;
    private final Model model = new Model();

    private ModelTest(int seed) {
        chance = new Random(seed);
        script = new Script("seed " + seed);
        gate = script.gate;
    }

    public static void main(String[] args) {
        int[] faults = new int[10];
        for (int seed = 0; seed < ROUNDS; seed++) new ModelTest(seed).run(faults);
        Script seen = new Script("what was seen");
        for (int fault = 0; fault <= 8; fault++) seen.due("FAULT " + fault + " often enough", faults[fault] >= 20 ? 1 : 0, 1);
        Script.end();
    }

    private void run(int[] faults) {
        classes();
        types();
        method();
        for (int i = 0; i < MENDINGS; i++) {
            int fault = verify();
            faults[fault]++;
            mend(fault);
        }
    }

    private void classes() {
        int many = chance.nextInt(9);
        for (int i = 0; i < many; i++) {
            int above = chance.nextInt(model.supers.size());
            boolean isInterface = chance.nextInt(4) == 0;
            script.due("cls", gate.cls(above, isInterface), model.supers.size());
            model.supers.add(above);
            model.interfaces.add(isInterface);
        }
    }

    private void types() {
        for (int i = 0; i < 20; i++) {
            int a = chance.nextInt(8) == 0 ? chance.nextInt(6) : ref();
            int b = chance.nextInt(8) == 0 ? chance.nextInt(6) : ref();
            script.due("join(" + a + ", " + b + ")", gate.join(a, b), model.join(a, b));
            script.due("goes(" + a + ", " + b + ")", gate.goes(a, b), model.goes(a, b) ? 1 : 0);
        }
    }

    private int ref() {
        int dimensions = chance.nextInt(3) == 0 ? 1 + chance.nextInt(3) : 0;
        if (dimensions > 0 && chance.nextInt(3) == 0) return 64 * dimensions + 12;
        return 64 * dimensions + 16 + chance.nextInt(model.supers.size());
    }

    private int value() {
        return chance.nextInt(2) == 0 ? ref() : 1 + chance.nextInt(4);
    }

    private void method() {
        model.result = chance.nextInt(3) == 0 ? value() : 0;
        model.locals = 2 + chance.nextInt(chance.nextInt(3) == 0 ? 11 : 4);
        model.stack = 1 + chance.nextInt(chance.nextInt(3) == 0 ? 12 : 5);
        script.due("begin", gate.begin(model.result, model.locals, model.stack), 1);
        int room = model.locals - chance.nextInt(2);
        for (int i = 0; i < 6; i++) {
            int type = chance.nextInt(2) == 0 ? 1 : value();
            room -= Model.wide(type) ? 2 : 1;
            if (room < 0) break;
            model.arguments.add(type);
            script.due("argument", gate.argument(type), model.arguments.size());
        }
        int size = 4 + chance.nextInt(chance.nextInt(3) == 0 ? 45 : 14);
        for (int k = 0; k < size; k++) {
            int[] made = instruction(k, size);
            model.code.add(made);
            script.due("add", gate.add(made[0], made[1], made[2]), k);
        }
        if (size >= OUT_OF_TWO.length && model.stack > 1 && chance.nextInt(4) == 0) {
            for (int k = 0; k < OUT_OF_TWO.length; k++) write(k, OUT_OF_TWO[k].clone());
        }
        int subroutines = chance.nextInt(3);
        for (int i = 0; i < subroutines; i++) subroutine(size);
        int handlers = chance.nextInt(2) == 0 ? 0 : chance.nextInt(4);
        for (int h = 0; h < handlers; h++) handler(size);
    }

    /** Chance alone makes few that come back: a STORE where it begins, a RET of the same LOCAL, and SUBS of it. */
    private void subroutine(int size) {
        int begins = chance.nextInt(size);
        int local = chance.nextInt(model.locals);
        int many = 1 + chance.nextInt(3);
        for (int i = 0; i < many; i++) write(chance.nextInt(size), new int[] {15, 0, begins});
        write(begins, new int[] {3, local, 0});
        write(Math.min(size - 1, begins + 1 + chance.nextInt(6)), new int[] {16, local, 0});
    }

    private void write(int k, int[] made) {
        int before = model.code.set(k, made)[0];
        script.due("change", gate.change(k, made[0], made[1], made[2]), before);
    }

    private void handler(int size) {
        int from = chance.nextInt(size);
        int to = from + 1 + chance.nextInt(size - from);
        int at = chance.nextInt(size);
        int c = chance.nextInt(3) == 0 ? chance.nextInt(model.supers.size()) : 1;
        model.handlers.add(new int[] {from, to, at, model.below(c, 1) || chance.nextInt(20) == 0 ? c : 1});
        int[] last = model.handlers.get(model.handlers.size() - 1);
        script.due("handler", gate.handler(from, to, at, last[3]), model.handlers.size());
    }

    private int[] instruction(int k, int size) {
        int[] often = {2, 3, 12, 15, 16, 17, 14, 18, 1};
        int op = chance.nextInt(3) == 0 ? often[chance.nextInt(often.length)] : chance.nextInt(31);
        int goal = chance.nextInt(3) == 0 ? chance.nextInt(size) : Math.min(size - 1, k + 1 + chance.nextInt(6));
        if (chance.nextInt(300) == 0) return new int[] {op, chance.nextInt(300) - 20, chance.nextInt(300) - 20};
        int local = chance.nextInt(model.locals);
        int c = chance.nextInt(model.supers.size());
        switch (op) {
            case 1: return new int[] {op, chance.nextInt(2) == 0 ? 1 : 1 + chance.nextInt(5), 0};
            case 2: case 3: case 16: case 30: return new int[] {op, local, 0};
            case 9: return new int[] {op, 1 + chance.nextInt(4), 0};
            case 10: return new int[] {op, 1 + chance.nextInt(4), 1 + chance.nextInt(4)};
            case 11: return new int[] {op, 2 + chance.nextInt(3), 0};
            case 12: case 13: case 14: case 15: return new int[] {op, 0, goal};
            case 17: return new int[] {op, chance.nextInt(size), goal};
            case 20: case 21: return new int[] {op, c, 0};
            case 22: case 23: return new int[] {op, c, value()};
            case 24: return new int[] {op, value(), value()};
            case 25: return new int[] {op, ref(), 0};
            case 26: return new int[] {op, chance.nextInt(3) == 0 ? 12 : ref() % 192, 0};
            case 27: case 28: return new int[] {op, ref() % 192 + 64 * (1 - ref() / 192), 0};
            default: return new int[] {op, 0, 0};
        }
    }

    private int verify() {
        int fault = model.verify();
        script.due("verify()", gate.verify(), fault);
        script.due("place()", gate.place(), model.place);
        script.count(0, model.supers.size()).count(1, model.code.size()).count(2, model.handlers.size());
        script.count(3, model.arguments.size()).count(4, model.looked).count(5, model.states.size());
        script.count(6, model.passed).count(7, model.begunSubs());
        for (int k = -1; k <= model.code.size(); k++) {
            for (int slot = -1; slot <= 46; slot++) script.state(k, slot, model.state(k, slot));
        }
        return fault;
    }

    /** Another INSTRUCTION where the FAULT is, or anywhere if there is none to mend. */
    private void mend(int fault) {
        int size = model.code.size();
        boolean there = fault > 0 && model.place < size && chance.nextInt(8) > 0;
        int k = there ? model.place : chance.nextInt(size);
        write(k, instruction(k, size));
    }
}
