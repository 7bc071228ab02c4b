import java.util.Arrays;

/** Verifies a method by data flow: its STATES are found by going along all ways until nothing changes. */
public final class FlowGate {
    public static final int REFUSED = -1, FULL = -2;

    private static final int MOST_CLASSES = 10, MOST_INSTRUCTIONS = 48, MOST_HANDLERS = 3;
    private static final int MOST_ARGUMENTS = 6, MOST_SLOTS = 12, MOST_LOOKS = 2999, SHOWN_SUBS = 6;

    // The TYPES; ABSENT stands for what an empty STACK has on top, and is no TYPE.
    private static final int ABSENT = -1, NOTHING = 0, INT = 1, FLOAT = 2, LONG = 3, DOUBLE = 4, NULL = 5;
    private static final int INTS = 12, OBJECT = 16, THROWN = 17, DIMENSION = 64, MOST_DIMENSIONS = 3;
    private static final int RAW = 1000, RETURN = 2000;

    private static final int PUSH = 1, LOAD = 2, STORE = 3, POP = 4, DUP = 5, OVER = 6, SWAP = 7, DUP2 = 8;
    private static final int MATH = 9, CHANGE = 10, COMPARE = 11, IF = 12, IFREF = 13, GO = 14, SUB = 15;
    private static final int RET = 16, CHOOSE = 17, GIVE = 18, THROW = 19, NEW = 20, BUILD = 21, GET = 22;
    private static final int SET = 23, CALL = 24, CAST = 25, ROW = 26, AT = 27, PUT = 28, SIZE = 29, ADD = 30;

    private static final int NO_FAULT = 0, FORM_FAULT = 1, NEEDS_FAULT = 2, ROOM_FAULT = 3, MEET_FAULT = 4;
    private static final int END_FAULT = 5, AGAIN_FAULT = 6, BACK_FAULT = 7, RAW_FAULT = 8, LONG_FAULT = 9;
    private static final int NO_PLACE = -1, HANDLER_PLACE = 100, ARGUMENTS_PLACE = 200;

    private static final int STACK_SLOT = 16, DEPTH_SLOT = 32, SUBS_SLOT = 33, SUB_SLOT = 34, TOUCHED_SLOT = 40;

    private final Types types;
    private final Method method;
    private final Form form;
    private final Flow flow;
    private int place;
    private int passed;

    public FlowGate() {
        types = new Types();
        method = new Method();
        form = new Form(types, method);
        flow = new Flow(types, method);
        place = NO_PLACE;
    }

    public int cls(int above, boolean isInterface) {
        if (!types.hasClass(above)) return REFUSED;
        if (types.size == MOST_CLASSES) return FULL;
        return types.append(above, isInterface);
    }

    public int begin(int result, int locals, int stack) {
        if (result != NOTHING && !types.isValue(result)) return REFUSED;
        if (locals < 0 || locals > MOST_SLOTS || stack < 0 || stack > MOST_SLOTS) return REFUSED;
        method.restart(result, locals, stack);
        return 1;
    }

    public int argument(int type) {
        if (!types.isValue(type)) return REFUSED;
        if (method.argumentCount == MOST_ARGUMENTS) return FULL;
        return method.appendArgument(type);
    }

    public int add(int op, int a, int b) {
        if (!isOp(op)) return REFUSED;
        if (method.size == MOST_INSTRUCTIONS) return FULL;
        return method.append(op, a, b);
    }

    public int change(int k, int op, int a, int b) {
        if (!method.hasInstruction(k) || !isOp(op)) return REFUSED;
        int before = method.op[k];
        method.write(k, op, a, b);
        return before;
    }

    public int handler(int from, int to, int at, int c) {
        if (method.handlerCount == MOST_HANDLERS) return FULL;
        return method.appendHandler(from, to, at, c);
    }

    public int verify() {
        flow.forget();
        place = form.findFault();
        if (place != NO_PLACE) return FORM_FAULT;
        int fault = flow.run();
        if (fault != NO_FAULT) {
            place = flow.place;
            return fault;
        }
        passed++;
        return NO_FAULT;
    }

    public int place() {
        return place;
    }

    public int state(int k, int slot) {
        if (k < 0 || k >= MOST_INSTRUCTIONS || !flow.reached[k]) return REFUSED;
        return flow.frames[k].read(slot);
    }

    public int join(int a, int b) {
        if (!types.isPlain(a) || !types.isPlain(b)) return REFUSED;
        return types.joined(a, b);
    }

    public int goes(int a, int b) {
        if (!types.isPlain(a) || !types.isPlain(b)) return REFUSED;
        return types.goesFor(a, b) ? 1 : 0;
    }

    public int count(int what) {
        switch (what) {
            case 0: return types.size;
            case 1: return method.size;
            case 2: return method.handlerCount;
            case 3: return method.argumentCount;
            case 4: return flow.looks;
            case 5: return flow.reachedCount;
            case 6: return passed;
            case 7: return Long.bitCount(flow.begunSubs);
            default: return REFUSED;
        }
    }

    private static boolean isOp(int op) {
        return op >= 0 && op <= ADD;
    }

    private static boolean isWide(int type) {
        return type == LONG || type == DOUBLE;
    }

    private static int widthOf(int type) {
        return type == LONG || type == DOUBLE ? 2 : 1;
    }

    private static boolean isRaw(int type) {
        return type >= RAW && type < RAW + MOST_INSTRUCTIONS;
    }

    private static boolean isReturn(int type) {
        return type >= RETURN && type < RETURN + MOST_INSTRUCTIONS;
    }

    /** The CLASSES, and how the TYPES stand to one another. */
    private static final class Types {
        // Bit d of upward[c] tells that c is BELOW d, so that no chain has to be climbed.
        final int[] upward = new int[MOST_CLASSES];
        final boolean[] isInterface = new boolean[MOST_CLASSES];
        int size;

        Types() {
            upward[0] = 1;
            upward[1] = 3;
            size = 2;
        }

        int append(int above, boolean asInterface) {
            upward[size] = upward[above] | 1 << size;
            isInterface[size] = asInterface;
            size++;
            return size - 1;
        }

        boolean hasClass(int c) {
            return c >= 0 && c < size;
        }

        boolean isBelow(int c, int d) {
            return (upward[c] >> d & 1) != 0;
        }

        boolean isRef(int type) {
            int dimensions = type >> 6;
            if (dimensions < 0 || dimensions > MOST_DIMENSIONS) return false;
            int base = type & DIMENSION - 1;
            if (base == INTS) return dimensions > 0;
            return base >= OBJECT && base < OBJECT + size;
        }

        boolean isRow(int type) {
            return type >= DIMENSION && isRef(type);
        }

        boolean isRefOrNull(int type) {
            return type == NULL || isRef(type);
        }

        /** A TYPE that an argument, a RESULT or a field may have. */
        boolean isValue(int type) {
            return type >= INT && type <= DOUBLE || isRef(type);
        }

        /** A TYPE that says nothing of an INSTRUCTION. */
        boolean isPlain(int type) {
            return type >= NOTHING && type <= NULL || isRef(type);
        }

        boolean goesFor(int a, int b) {
            if (a == b) return true;
            if (!isRefOrNull(a) || !isRef(b)) return false;
            if (a == NULL) return true;
            int x = a;
            int y = b;
            for (int lost = 0; lost < MOST_DIMENSIONS && x >= DIMENSION && y >= DIMENSION; lost++) {
                x -= DIMENSION;
                y -= DIMENSION;
            }
            if (x == INTS || y == INTS) return false;
            if (y == OBJECT) return true;
            if (x >= DIMENSION || y >= DIMENSION) return false;
            return isInterface[y - OBJECT] || isBelow(x - OBJECT, y - OBJECT);
        }

        int joined(int a, int b) {
            if (a == b) return a;
            boolean refA = isRef(a);
            boolean refB = isRef(b);
            if (refA && b == NULL) return a;
            if (refB && a == NULL) return b;
            if (!refA || !refB) return NOTHING;
            int dimensionsA = a >> 6;
            int dimensionsB = b >> 6;
            int least = dimensionsA < dimensionsB ? dimensionsA : dimensionsB;
            // A row of ints with no DIMENSION to spare holds no REFS, so one DIMENSION less is all they share.
            if (a - DIMENSION * least == INTS || b - DIMENSION * least == INTS) return DIMENSION * (least - 1) + OBJECT;
            if (dimensionsA != dimensionsB) return DIMENSION * least + OBJECT;
            return DIMENSION * least + joinedClasses(a - DIMENSION * least, b - DIMENSION * least);
        }

        private int joinedClasses(int a, int b) {
            if (isInterface[a - OBJECT] || isInterface[b - OBJECT]) return OBJECT;
            int common = upward[a - OBJECT] & upward[b - OBJECT];
            // A SUPER always has a lesser number, so the first one upwards is the greatest that both have.
            for (int c = a - OBJECT; c > 0; c--) {
                if ((common >> c & 1) != 0) return OBJECT + c;
            }
            return OBJECT;
        }
    }

    /** THE METHOD as it was told, right or wrong. */
    private static final class Method {
        final int[] op = new int[MOST_INSTRUCTIONS];
        final int[] a = new int[MOST_INSTRUCTIONS];
        final int[] b = new int[MOST_INSTRUCTIONS];
        int size;
        final int[] from = new int[MOST_HANDLERS];
        final int[] to = new int[MOST_HANDLERS];
        final int[] at = new int[MOST_HANDLERS];
        final int[] caught = new int[MOST_HANDLERS];
        int handlerCount;
        final int[] arguments = new int[MOST_ARGUMENTS];
        int argumentCount;
        int result;
        int locals;
        int stack;

        void restart(int newResult, int newLocals, int newStack) {
            result = newResult;
            locals = newLocals;
            stack = newStack;
            size = 0;
            handlerCount = 0;
            argumentCount = 0;
        }

        int append(int newOp, int newA, int newB) {
            write(size, newOp, newA, newB);
            size++;
            return size - 1;
        }

        void write(int k, int newOp, int newA, int newB) {
            op[k] = newOp;
            a[k] = newA;
            b[k] = newB;
        }

        int appendArgument(int type) {
            arguments[argumentCount] = type;
            argumentCount++;
            return argumentCount;
        }

        int appendHandler(int newFrom, int newTo, int newAt, int c) {
            from[handlerCount] = newFrom;
            to[handlerCount] = newTo;
            at[handlerCount] = newAt;
            caught[handlerCount] = c;
            handlerCount++;
            return handlerCount;
        }

        boolean hasInstruction(int k) {
            return k >= 0 && k < size;
        }

        boolean hasLocal(int local) {
            return local >= 0 && local < locals;
        }

        boolean covers(int h, int k) {
            return from[h] <= k && k < to[h];
        }
    }

    /** Whether THE METHOD has the right FORM: all that the flow takes for granted is looked at here. */
    private static final class Form {
        final Types types;
        final Method method;

        Form(Types itsTypes, Method itsMethod) {
            types = itsTypes;
            method = itsMethod;
        }

        /** The place of the first FAULT, NO_PLACE without one. */
        int findFault() {
            if (method.size == 0) return 0;
            for (int k = 0; k < method.size; k++) {
                if (!isWellFormed(method.op[k], method.a[k], method.b[k])) return k;
            }
            for (int h = 0; h < method.handlerCount; h++) {
                if (!isHandlerWellFormed(h)) return HANDLER_PLACE + h;
            }
            return haveArgumentsRoom() ? NO_PLACE : ARGUMENTS_PLACE;
        }

        private boolean isWellFormed(int op, int a, int b) {
            switch (op) {
                case PUSH: return a >= INT && a <= NULL;
                case LOAD: case STORE: case RET: case ADD: return method.hasLocal(a);
                case MATH: return isNumber(a);
                case CHANGE: return isNumber(a) && isNumber(b);
                case COMPARE: return a >= FLOAT && a <= DOUBLE;
                case IF: case IFREF: case GO: case SUB: return method.hasInstruction(b);
                case CHOOSE: return method.hasInstruction(a) && method.hasInstruction(b);
                case NEW: case BUILD: return types.hasClass(a);
                case GET: case SET: return types.hasClass(a) && types.isValue(b);
                case CALL: return types.isValue(a) && types.isValue(b);
                case CAST: return types.isRef(a);
                case ROW: return a == INTS || a < DIMENSION * MOST_DIMENSIONS && types.isRef(a);
                case AT: case PUT: return types.isRow(a);
                default: return true;
            }
        }

        private static boolean isNumber(int type) {
            return type >= INT && type <= DOUBLE;
        }

        private boolean isHandlerWellFormed(int h) {
            boolean inOrder = 0 <= method.from[h] && method.from[h] < method.to[h] && method.to[h] <= method.size;
            if (!inOrder || !method.hasInstruction(method.at[h])) return false;
            int c = method.caught[h];
            return types.hasClass(c) && types.isBelow(c, THROWN - OBJECT);
        }

        private boolean haveArgumentsRoom() {
            int taken = 0;
            for (int i = 0; i < method.argumentCount; i++) taken += widthOf(method.arguments[i]);
            return taken <= method.locals;
        }
    }

    /** A STATE: LOCALS, the STACK and SUBS with what was TOUCHED in them. */
    private static final class Frame {
        final int[] locals = new int[MOST_SLOTS];
        final int[] stack = new int[MOST_SLOTS];
        int depth;
        // Bit b of subs tells that b is in SUBS; touched[b] is 0 for one that is not.
        long subs;
        final int[] touched = new int[MOST_INSTRUCTIONS];

        void copy(Frame other) {
            System.arraycopy(other.locals, 0, locals, 0, MOST_SLOTS);
            System.arraycopy(other.stack, 0, stack, 0, MOST_SLOTS);
            System.arraycopy(other.touched, 0, touched, 0, MOST_INSTRUCTIONS);
            depth = other.depth;
            subs = other.subs;
        }

        /** The STATE in which the METHOD begins. */
        void start(Method method) {
            Arrays.fill(locals, NOTHING);
            Arrays.fill(touched, 0);
            depth = 0;
            subs = 0;
            int local = 0;
            for (int i = 0; i < method.argumentCount && local < MOST_SLOTS; i++) {
                locals[local] = method.arguments[i];
                local += widthOf(method.arguments[i]);
            }
        }

        /** The STATE in which a HANDLER takes over from another one. */
        void catchIn(Frame other, int type) {
            copy(other);
            stack[0] = type;
            depth = 1;
        }

        /** The STATE behind a SUB (there) when a RET (here) of its SUBROUTINE comes back to it. */
        void comeBack(Frame here, Frame there, int sub) {
            copy(there);
            System.arraycopy(here.stack, 0, stack, 0, MOST_SLOTS);
            depth = here.depth;
            int mask = here.touched[sub];
            for (int i = 0; i < MOST_SLOTS; i++) {
                if ((mask >> i & 1) != 0) locals[i] = here.locals[i];
            }
            touchAll(mask);
            replace(RETURN + sub, NOTHING);
        }

        /** What is so far from the top of the STACK, or ABSENT. */
        int top(int below) {
            return below < depth ? stack[depth - 1 - below] : ABSENT;
        }

        /** Whether something that is not WIDE is there. */
        boolean hasNarrow(int below) {
            return below < depth && !isWide(stack[depth - 1 - below]);
        }

        void drop(int many) {
            depth -= many;
        }

        /** Puts a TYPE on the STACK, if that does not count more than the limit then. */
        int push(int type, int limit) {
            int weight = widthOf(type);
            for (int i = 0; i < depth; i++) weight += widthOf(stack[i]);
            if (weight > limit) return ROOM_FAULT;
            stack[depth] = type;
            depth++;
            return NO_FAULT;
        }

        void store(int local, int type) {
            if (local > 0 && isWide(locals[local - 1])) locals[local - 1] = NOTHING;
            locals[local] = type;
            if (isWide(type)) locals[local + 1] = NOTHING;
        }

        void touch(int local, int type) {
            touchAll(isWide(type) ? 3 << local : 1 << local);
        }

        private void touchAll(int mask) {
            for (int b = 0; b < MOST_INSTRUCTIONS && subs >> b != 0; b++) {
                if (isIn(b)) touched[b] |= mask;
            }
        }

        boolean isIn(int sub) {
            return (subs >> sub & 1) != 0;
        }

        void enter(int sub) {
            subs |= 1L << sub;
            touched[sub] = 0;
        }

        void replace(int type, int by) {
            for (int i = 0; i < MOST_SLOTS; i++) {
                if (locals[i] == type) locals[i] = by;
            }
            for (int i = 0; i < depth; i++) {
                if (stack[i] == type) stack[i] = by;
            }
        }

        boolean isOnStack(int type) {
            for (int i = 0; i < depth; i++) {
                if (stack[i] == type) return true;
            }
            return false;
        }

        boolean hasRawLocal() {
            for (int i = 0; i < MOST_SLOTS; i++) {
                if (isRaw(locals[i])) return true;
            }
            return false;
        }

        boolean hasRaw() {
            for (int i = 0; i < depth; i++) {
                if (isRaw(stack[i])) return true;
            }
            return hasRawLocal();
        }

        /** Joins what comes into this one, with as many on the STACK: whether anything became another. */
        boolean absorb(Frame other, Types types) {
            boolean changed = absorbSubs(other);
            for (int i = 0; i < MOST_SLOTS; i++) {
                int before = locals[i];
                locals[i] = types.joined(before, other.locals[i]);
                if (locals[i] != before) changed = true;
            }
            for (int i = 0; i < depth; i++) {
                int before = stack[i];
                stack[i] = types.joined(before, other.stack[i]);
                if (stack[i] != before) changed = true;
            }
            return changed;
        }

        private boolean absorbSubs(Frame other) {
            long before = subs;
            subs &= other.subs;
            boolean changed = subs != before;
            for (int b = 0; b < MOST_INSTRUCTIONS && before >> b != 0; b++) {
                int together = isIn(b) ? touched[b] | other.touched[b] : 0;
                if (together != touched[b]) changed = true;
                touched[b] = together;
            }
            return changed;
        }

        /** What state() answers of a slot; LOCALS that THE METHOD does not have are there too, with NOTHING. */
        int read(int slot) {
            if (slot >= 0 && slot < MOST_SLOTS) return locals[slot];
            if (slot >= STACK_SLOT && slot < STACK_SLOT + depth) return stack[slot - STACK_SLOT];
            if (slot == DEPTH_SLOT) return depth;
            if (slot == SUBS_SLOT) return Long.bitCount(subs);
            if (slot >= SUB_SLOT && slot < SUB_SLOT + SHOWN_SUBS) return findSub(slot - SUB_SLOT);
            if (slot < TOUCHED_SLOT || slot >= TOUCHED_SLOT + SHOWN_SUBS) return REFUSED;
            int sub = findSub(slot - TOUCHED_SLOT);
            return sub == REFUSED ? REFUSED : touched[sub];
        }

        /** The j-th of SUBS by numbers, or REFUSED. */
        private int findSub(int j) {
            int passedBy = 0;
            for (int b = 0; b < MOST_INSTRUCTIONS; b++) {
                if (!isIn(b)) continue;
                if (passedBy == j) return b;
                passedBy++;
            }
            return REFUSED;
        }
    }

    /** The going along all ways, and what the latest one found. */
    private static final class Flow {
        final Types types;
        final Method method;
        final Frame[] frames = new Frame[MOST_INSTRUCTIONS];
        final boolean[] reached = new boolean[MOST_INSTRUCTIONS];
        final boolean[] changed = new boolean[MOST_INSTRUCTIONS];
        // Bit b of doneFor[k] tells that the RET k was done for the SUBROUTINE b.
        final long[] doneFor = new long[MOST_INSTRUCTIONS];
        // The STATE in which an INSTRUCTION is being done, and one that is on its way elsewhere.
        final Frame out = new Frame();
        final Frame coming = new Frame();
        int looks;
        int place;
        int reachedCount;
        long begunSubs;

        Flow(Types itsTypes, Method itsMethod) {
            types = itsTypes;
            method = itsMethod;
            for (int k = 0; k < MOST_INSTRUCTIONS; k++) frames[k] = new Frame();
        }

        void forget() {
            Arrays.fill(doneFor, 0L);
            for (int k = 0; k < MOST_INSTRUCTIONS; k++) {
                reached[k] = false;
                changed[k] = false;
            }
            looks = 0;
            reachedCount = 0;
            begunSubs = 0L;
        }

        /** Goes along all ways of a METHOD of the right FORM: 0, or the FAULT, whose INSTRUCTION place is then. */
        int run() {
            coming.start(method);
            int fault = meet(NO_PLACE, 0, coming);
            int k = 0;
            while (fault == NO_FAULT && k < method.size && looks < MOST_LOOKS) {
                looks++;
                fault = look(k);
                k = findChanged();
            }
            if (fault == NO_FAULT && k < method.size) {
                place = k;
                return LONG_FAULT;
            }
            return fault;
        }

        /** The least INSTRUCTION that is CHANGED, or one behind the last. */
        private int findChanged() {
            for (int k = 0; k < method.size; k++) {
                if (changed[k]) return k;
            }
            return method.size;
        }

        private int look(int k) {
            changed[k] = false;
            place = k;
            int fault = meetHandlers(k);
            if (fault != NO_FAULT) return fault;
            out.copy(frames[k]);
            fault = perform(k);
            if (fault != NO_FAULT) return fault;
            return method.op[k] == RET ? comeBack(k) : leave(k);
        }

        private int meetHandlers(int k) {
            for (int h = 0; h < method.handlerCount; h++) {
                if (!method.covers(h, k)) continue;
                if (frames[k].hasRawLocal()) return RAW_FAULT;
                if (method.stack == 0) return ROOM_FAULT;
                coming.catchIn(frames[k], OBJECT + method.caught[h]);
                int fault = meet(NO_PLACE, method.at[h], coming);
                if (fault != NO_FAULT) return fault;
            }
            return NO_FAULT;
        }

        /** Lets a STATE that comes from an INSTRUCTION (NO_PLACE: from none) be MET at another. */
        private int meet(int from, int to, Frame state) {
            if (to >= method.size) return END_FAULT;
            if (to <= from && state.hasRaw()) return RAW_FAULT;
            if (!reached[to]) {
                reach(to, state);
                return NO_FAULT;
            }
            if (frames[to].depth != state.depth) {
                place = to;
                return MEET_FAULT;
            }
            if (frames[to].absorb(state, types)) changed[to] = true;
            return NO_FAULT;
        }

        private void reach(int k, Frame state) {
            frames[k].copy(state);
            reached[k] = true;
            changed[k] = true;
            reachedCount++;
            if (method.op[k] == SUB) begunSubs |= 1L << method.b[k];
        }

        /** Goes to all INSTRUCTIONS that may be next when one other than RET was done. */
        private int leave(int k) {
            int b = method.b[k];
            int fault;
            switch (method.op[k]) {
                case GIVE: case THROW:
                    return NO_FAULT;
                case GO:
                    return meet(k, b, out);
                case SUB:
                    fault = meet(k, b, out);
                    wakeReturns(b);
                    return fault;
                case IF: case IFREF:
                    fault = meet(k, k + 1, out);
                    return fault == NO_FAULT ? meet(k, b, out) : fault;
                case CHOOSE:
                    fault = meet(k, method.a[k], out);
                    return fault == NO_FAULT ? meet(k, b, out) : fault;
                default:
                    return meet(k, k + 1, out);
            }
        }

        /** A further SUB is one more that these have to come back to. */
        private void wakeReturns(int sub) {
            for (int k = 0; k < method.size; k++) {
                if ((doneFor[k] >> sub & 1) != 0) changed[k] = true;
            }
        }

        private int comeBack(int k) {
            int sub = out.locals[method.a[k]] - RETURN;
            for (int s = 0; s < method.size; s++) {
                if (!reached[s] || method.op[s] != SUB || method.b[s] != sub) continue;
                coming.comeBack(out, frames[s], sub);
                int fault = meet(k, s + 1, coming);
                if (fault != NO_FAULT) return fault;
            }
            return NO_FAULT;
        }

        /** Does to the STATE what the INSTRUCTION does. */
        private int perform(int k) {
            int a = method.a[k];
            int b = method.b[k];
            int op = method.op[k];
            switch (op) {
                case LOAD: return load(a);
                case STORE: return store(a);
                case ADD: return increase(a);
                case RET: return prepareReturn(k, a);
                case POP: case DUP: case OVER: case SWAP: case DUP2: return shuffle(op);
                case PUSH: case MATH: case CHANGE: case COMPARE: return calculate(op, a, b);
                case IF: case IFREF: case CHOOSE: case GIVE: case THROW: return decide(op);
                case SUB: return enterSub(b);
                case NEW: return create(k);
                case BUILD: return build(a);
                case GET: case SET: case CALL: case CAST: return useObject(op, a, b);
                case ROW: case AT: case PUT: case SIZE: return useRow(op, a);
                default: return NO_FAULT;
            }
        }

        private int takeIf(boolean there, int taken) {
            if (!there) return NEEDS_FAULT;
            out.drop(taken);
            return NO_FAULT;
        }

        private int exchangeIf(boolean there, int taken, int type) {
            if (!there) return NEEDS_FAULT;
            out.drop(taken);
            return out.push(type, method.stack);
        }

        private boolean fitsLocal(int local, int type) {
            return local + widthOf(type) <= method.locals;
        }

        private int load(int local) {
            int type = out.locals[local];
            if (type == NOTHING || isReturn(type) || !fitsLocal(local, type)) return NEEDS_FAULT;
            out.touch(local, type);
            return out.push(type, method.stack);
        }

        private int store(int local) {
            int type = out.top(0);
            if (type == ABSENT || type == NOTHING || !fitsLocal(local, type)) return NEEDS_FAULT;
            out.drop(1);
            out.store(local, type);
            out.touch(local, type);
            return NO_FAULT;
        }

        private int increase(int local) {
            if (out.locals[local] != INT) return NEEDS_FAULT;
            out.touch(local, INT);
            return NO_FAULT;
        }

        private int prepareReturn(int k, int local) {
            int type = out.locals[local];
            if (!isReturn(type)) return NEEDS_FAULT;
            int sub = type - RETURN;
            if (!out.isIn(sub)) return BACK_FAULT;
            out.touch(local, type);
            doneFor[k] |= 1L << sub;
            return NO_FAULT;
        }

        private int enterSub(int sub) {
            if (out.isIn(sub)) return AGAIN_FAULT;
            out.enter(sub);
            return out.push(RETURN + sub, method.stack);
        }

        private int shuffle(int op) {
            int y = out.top(0);
            if (op == DUP2 && isWide(y)) return out.push(y, method.stack);
            if (!out.hasNarrow(0)) return NEEDS_FAULT;
            if (op == POP) return takeIf(true, 1);
            if (op == DUP) return out.push(y, method.stack);
            if (!out.hasNarrow(1)) return NEEDS_FAULT;
            int x = out.top(1);
            if (op == DUP2) return pushBoth(x, y);
            out.drop(2);
            int fault = pushBoth(y, x);
            return fault == NO_FAULT && op == OVER ? out.push(y, method.stack) : fault;
        }

        private int pushBoth(int x, int y) {
            int fault = out.push(x, method.stack);
            return fault == NO_FAULT ? out.push(y, method.stack) : fault;
        }

        private int calculate(int op, int a, int b) {
            if (op == PUSH) return out.push(a, method.stack);
            boolean one = out.top(0) == a;
            if (op == CHANGE) return exchangeIf(one, 1, b);
            return exchangeIf(one && out.top(1) == a, 2, op == MATH ? a : INT);
        }

        private int decide(int op) {
            int type = out.top(0);
            switch (op) {
                case IFREF: return takeIf(types.isRefOrNull(type), 1);
                case THROW: return takeIf(types.goesFor(type, THROWN), 1);
                case GIVE: return method.result == NOTHING ? NO_FAULT : takeIf(types.goesFor(type, method.result), 1);
                default: return takeIf(type == INT, 1);
            }
        }

        private int create(int k) {
            if (out.isOnStack(RAW + k)) return NEEDS_FAULT;
            out.replace(RAW + k, NOTHING);
            return out.push(RAW + k, method.stack);
        }

        private int build(int c) {
            int type = out.top(0);
            if (!isRaw(type) || method.a[type - RAW] != c) return NEEDS_FAULT;
            out.drop(1);
            out.replace(type, OBJECT + c);
            return NO_FAULT;
        }

        private int useObject(int op, int a, int b) {
            int type = out.top(0);
            switch (op) {
                case GET: return exchangeIf(types.goesFor(type, OBJECT + a), 1, b);
                case SET: return takeIf(types.goesFor(type, b) && types.goesFor(out.top(1), OBJECT + a), 2);
                case CALL: return exchangeIf(types.goesFor(type, a), 1, b);
                default: return exchangeIf(types.isRefOrNull(type), 1, a);
            }
        }

        private int useRow(int op, int row) {
            int type = out.top(0);
            switch (op) {
                case ROW: return exchangeIf(type == INT, 1, row + DIMENSION);
                case AT: return exchangeIf(type == INT && isRowOf(out.top(1), row), 2, elementOf(row));
                case PUT: return takeIf(types.goesFor(type, elementOf(row)) && out.top(1) == INT
                        && isRowOf(out.top(2), row), 3);
                default: return exchangeIf(type == NULL || types.isRow(type), 1, INT);
            }
        }

        private static boolean isRowOf(int type, int row) {
            return type == NULL || type == row;
        }

        private static int elementOf(int row) {
            return row == DIMENSION + INTS ? INT : row - DIMENSION;
        }
    }
}
