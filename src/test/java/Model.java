import java.util.ArrayList;
import java.util.Arrays;
import java.util.List;
import java.util.Map;
import java.util.TreeMap;
import java.util.TreeSet;

/** The document once more, in the plainest words that Java has for it and with no regard to cost. */
final class Model {
    /** A FAULT that ends VERIFYING. */
    private static final class Fault extends RuntimeException {
        private static final long serialVersionUID = 1L;
        final int number;
        final int place;

        Fault(int number, int place) {
            this.number = number;
            this.place = place;
        }
    }

    static final class State {
        final List<Integer> locals = new ArrayList<>();
        final List<Integer> stack = new ArrayList<>();
        final TreeMap<Integer, TreeSet<Integer>> subs = new TreeMap<>();

        State copy() {
            State s = new State();
            s.locals.addAll(locals);
            s.stack.addAll(stack);
            for (Map.Entry<Integer, TreeSet<Integer>> e : subs.entrySet()) s.subs.put(e.getKey(), new TreeSet<>(e.getValue()));
            return s;
        }

        boolean same(State o) {
            return locals.equals(o.locals) && stack.equals(o.stack) && subs.equals(o.subs);
        }
    }

    final List<Integer> supers = new ArrayList<>(Arrays.asList(-1, 0));
    final List<Boolean> interfaces = new ArrayList<>(Arrays.asList(false, false));
    final List<int[]> code = new ArrayList<>();
    final List<int[]> handlers = new ArrayList<>();
    final List<Integer> arguments = new ArrayList<>();
    int result;
    int locals;
    int stack;

    final TreeMap<Integer, State> states = new TreeMap<>();
    final TreeSet<Integer> changed = new TreeSet<>();
    final TreeMap<Integer, TreeSet<Integer>> doneFor = new TreeMap<>();
    int looked;
    int fault;
    int place = -1;

    boolean isClass(int c) {
        return c >= 0 && c < supers.size();
    }

    boolean below(int c, int d) {
        return c == d || supers.get(c) >= 0 && below(supers.get(c), d);
    }

    boolean isRef(int t) {
        if (t >= 16 && t < 64) return isClass(t - 16);
        for (int d = 1; d <= 3; d++) {
            if (t == 64 * d + 12 || t >= 64 * d + 16 && isClass(t - 64 * d - 16)) return true;
        }
        return false;
    }

    boolean isValue(int t) {
        return t >= 1 && t <= 4 || isRef(t);
    }

    boolean isRow(int t) {
        return isRef(t) && t >= 64;
    }

    boolean isClassRef(int t) {
        return isRef(t) && t < 64;
    }

    static boolean wide(int t) {
        return t == 3 || t == 4;
    }

    boolean goes(int a, int b) {
        if (a == b) return true;
        if ((a == 5 || isRef(a)) && b == 16) return true;
        if (a == 5 && isRef(b)) return true;
        if (isClassRef(a) && isClassRef(b)) return interfaces.get(b - 16) || below(a - 16, b - 16);
        return isRow(a) && isRow(b) && isRef(a - 64) && isRef(b - 64) && goes(a - 64, b - 64);
    }

    int join(int a, int b) {
        if (a == b) return a;
        if (a == 5 && isRef(b)) return b;
        if (b == 5 && isRef(a)) return a;
        if (!isRef(a) || !isRef(b)) return 0;
        if (isClassRef(a) && isClassRef(b)) {
            if (interfaces.get(a - 16) || interfaces.get(b - 16)) return 16;
            int c = a - 16;
            while (!below(b - 16, c)) c = supers.get(c);
            return 16 + c;
        }
        int da = a / 64;
        int db = b / 64;
        boolean intsA = a % 64 == 12;
        boolean intsB = b % 64 == 12;
        if (da == db && !intsA && !intsB) return 64 * da + join(a % 64, b % 64);
        int n = Math.min(da, db);
        if (intsA && da == n || intsB && db == n) n--;
        return 64 * n + 16;
    }

    int verify() {
        states.clear();
        changed.clear();
        doneFor.clear();
        looked = 0;
        fault = 0;
        place = -1;
        try {
            form();
            flow();
        } catch (Fault f) {
            fault = f.number;
            place = f.place;
        }
        return fault;
    }

    private static void form(boolean right, int place) {
        if (!right) throw new Fault(1, place);
    }

    private boolean isCode(int k) {
        return k >= 0 && k < code.size();
    }

    private void form() {
        form(!code.isEmpty(), 0);
        for (int k = 0; k < code.size(); k++) form(formOf(code.get(k)[0], code.get(k)[1], code.get(k)[2]), k);
        for (int h = 0; h < handlers.size(); h++) {
            int[] x = handlers.get(h);
            form(0 <= x[0] && x[0] < x[1] && x[1] <= code.size() && isCode(x[2]) && isClass(x[3]) && below(x[3], 1), 100 + h);
        }
        int room = locals;
        for (int t : arguments) room -= wide(t) ? 2 : 1;
        form(room >= 0, 200);
    }

    private boolean formOf(int op, int a, int b) {
        boolean numberA = a >= 1 && a <= 4;
        boolean local = a >= 0 && a < locals;
        if (op == 1) return a >= 1 && a <= 5;
        if (op == 2 || op == 3 || op == 16 || op == 30) return local;
        if (op == 9) return numberA;
        if (op == 10) return numberA && b >= 1 && b <= 4;
        if (op == 11) return numberA && a != 1;
        if (op >= 12 && op <= 15) return isCode(b);
        if (op == 17) return isCode(a) && isCode(b);
        if (op == 20 || op == 21) return isClass(a);
        if (op == 22 || op == 23) return isClass(a) && isValue(b);
        if (op == 24) return isValue(a) && isValue(b);
        if (op == 25) return isRef(a);
        if (op == 26) return a == 12 || isRef(a) && a < 192;
        if (op == 27 || op == 28) return isRow(a);
        return true;
    }

    private void flow() {
        State first = new State();
        for (int t : arguments) {
            first.locals.add(t);
            if (wide(t)) first.locals.add(0);
        }
        while (first.locals.size() < locals) first.locals.add(0);
        states.put(0, first);
        changed.add(0);
        while (!changed.isEmpty()) {
            int k = changed.first();
            if (looked + 1 == 3000) throw new Fault(9, k);
            looked++;
            changed.remove(k);
            for (int[] h : handlers) {
                if (h[0] <= k && k <= h[1] - 1) handle(k, h);
            }
            int[] i = code.get(k);
            new Step(k, states.get(k).copy()).run(i[0], i[1], i[2]);
        }
    }

    private void handle(int k, int[] h) {
        State s = states.get(k).copy();
        for (int t : s.locals) {
            if (t >= 1000 && t < 2000) throw new Fault(8, k);
        }
        if (stack == 0) throw new Fault(3, k);
        s.stack.clear();
        s.stack.add(16 + h[3]);
        meet(h[2], s);
    }

    private void meet(int to, State coming) {
        State has = states.get(to);
        if (has == null) {
            states.put(to, coming.copy());
            changed.add(to);
            return;
        }
        if (has.stack.size() != coming.stack.size()) throw new Fault(4, to);
        State now = new State();
        for (int i = 0; i < locals; i++) now.locals.add(join(has.locals.get(i), coming.locals.get(i)));
        for (int i = 0; i < has.stack.size(); i++) now.stack.add(join(has.stack.get(i), coming.stack.get(i)));
        for (int b : has.subs.keySet()) {
            if (!coming.subs.containsKey(b)) continue;
            TreeSet<Integer> either = new TreeSet<>(has.subs.get(b));
            either.addAll(coming.subs.get(b));
            now.subs.put(b, either);
        }
        if (now.same(has)) return;
        states.put(to, now);
        changed.add(to);
    }

    private void go(int k, int to, State coming) {
        if (to == code.size()) throw new Fault(5, k);
        if (to <= k) {
            List<Integer> all = new ArrayList<>(coming.locals);
            all.addAll(coming.stack);
            for (int t : all) {
                if (t >= 1000 && t < 2000) throw new Fault(8, k);
            }
        }
        meet(to, coming);
    }

    /** One INSTRUCTION being done. */
    private final class Step {
        final int k;
        final State s;

        Step(int k, State s) {
            this.k = k;
            this.s = s;
        }

        void need(boolean there) {
            if (!there) throw new Fault(2, k);
        }

        int pop() {
            need(!s.stack.isEmpty());
            return s.stack.remove(s.stack.size() - 1);
        }

        int narrow() {
            int t = pop();
            need(!wide(t));
            return t;
        }

        void pop(int t) {
            need(pop() == t);
        }

        void fit(int t) {
            need(goes(pop(), t));
        }

        void put(int... types) {
            int counted = 0;
            for (int t : types) s.stack.add(t);
            for (int t : s.stack) counted += wide(t) ? 2 : 1;
            if (counted > stack) throw new Fault(3, k);
        }

        void touch(int local) {
            for (TreeSet<Integer> touched : s.subs.values()) touched.add(local);
        }

        void touch(int local, int type) {
            touch(local);
            if (wide(type)) touch(local + 1);
        }

        void swapAll(int from, int to) {
            s.locals.replaceAll(t -> t == from ? to : t);
            s.stack.replaceAll(t -> t == from ? to : t);
        }

        void on() {
            go(k, k + 1, s);
        }

        void run(int op, int a, int b) {
            if (op <= 8) simple(op, a);
            else if (op <= 11 || op == 30) number(op, a, b);
            else if (op <= 19) way(op, a, b);
            else object(op, a, b);
        }

        void simple(int op, int a) {
            int x;
            int y;
            switch (op) {
                case 1:
                    put(a);
                    break;
                case 2:
                    x = s.locals.get(a);
                    need(x != 0 && x < 2000 && (!wide(x) || a + 1 < locals));
                    touch(a, x);
                    put(x);
                    break;
                case 3:
                    x = pop();
                    need(x != 0 && (!wide(x) || a + 1 < locals));
                    if (a > 0 && wide(s.locals.get(a - 1))) s.locals.set(a - 1, 0);
                    s.locals.set(a, x);
                    if (wide(x)) s.locals.set(a + 1, 0);
                    touch(a, x);
                    break;
                case 4:
                    narrow();
                    break;
                case 5:
                    x = narrow();
                    put(x, x);
                    break;
                case 6:
                    y = narrow();
                    x = narrow();
                    put(y, x, y);
                    break;
                case 7:
                    y = narrow();
                    x = narrow();
                    put(y, x);
                    break;
                case 8:
                    y = pop();
                    if (wide(y)) {
                        put(y, y);
                    } else {
                        x = narrow();
                        put(x, y, x, y);
                    }
                    break;
                default:
            }
            on();
        }

        void number(int op, int a, int b) {
            if (op == 30) {
                need(s.locals.get(a) == 1);
                touch(a);
            } else {
                pop(a);
                if (op != 10) pop(a);
                put(op == 9 ? a : op == 10 ? b : 1);
            }
            on();
        }

        void way(int op, int a, int b) {
            switch (op) {
                case 12:
                    pop(1);
                    on();
                    go(k, b, s);
                    break;
                case 13:
                    ref();
                    on();
                    go(k, b, s);
                    break;
                case 14:
                    go(k, b, s);
                    break;
                case 15:
                    sub(b);
                    break;
                case 16:
                    ret(a);
                    break;
                case 17:
                    pop(1);
                    go(k, a, s);
                    go(k, b, s);
                    break;
                case 18:
                    if (result != 0) fit(result);
                    break;
                default:
                    fit(17);
            }
        }

        void ref() {
            int t = pop();
            need(t == 5 || isRef(t));
        }

        void sub(int b) {
            if (s.subs.containsKey(b)) throw new Fault(6, k);
            put(2000 + b);
            s.subs.put(b, new TreeSet<>());
            go(k, b, s);
            for (int r : doneFor.keySet()) {
                if (doneFor.get(r).contains(b)) changed.add(r);
            }
        }

        void ret(int a) {
            int t = s.locals.get(a);
            need(t >= 2000);
            int b = t - 2000;
            if (!s.subs.containsKey(b)) throw new Fault(7, k);
            touch(a);
            doneFor.computeIfAbsent(k, x -> new TreeSet<>()).add(b);
            TreeSet<Integer> touched = s.subs.get(b);
            for (int c = 0; c < code.size(); c++) {
                if (code.get(c)[0] != 15 || code.get(c)[2] != b || !states.containsKey(c)) continue;
                State there = states.get(c).copy();
                for (int i : touched) there.locals.set(i, s.locals.get(i));
                there.stack.clear();
                there.stack.addAll(s.stack);
                for (TreeSet<Integer> outer : there.subs.values()) outer.addAll(touched);
                there.locals.replaceAll(u -> u == t ? 0 : u);
                there.stack.replaceAll(u -> u == t ? 0 : u);
                go(k, c + 1, there);
            }
        }

        void object(int op, int a, int b) {
            int left = op == 27 || op == 28 ? (a == 76 ? 1 : a - 64) : 0;
            int t;
            switch (op) {
                case 20:
                    need(!s.stack.contains(1000 + k));
                    swapAll(1000 + k, 0);
                    put(1000 + k);
                    break;
                case 21:
                    t = pop();
                    need(t >= 1000 && t < 2000 && code.get(t - 1000)[1] == a);
                    swapAll(t, 16 + a);
                    break;
                case 22:
                    fit(16 + a);
                    put(b);
                    break;
                case 23:
                    fit(b);
                    fit(16 + a);
                    break;
                case 24:
                    fit(a);
                    put(b);
                    break;
                case 25:
                    ref();
                    put(a);
                    break;
                case 26:
                    pop(1);
                    put(a + 64);
                    break;
                case 27:
                    pop(1);
                    t = pop();
                    need(t == 5 || t == a);
                    put(left);
                    break;
                case 28:
                    fit(left);
                    pop(1);
                    t = pop();
                    need(t == 5 || t == a);
                    break;
                default:
                    t = pop();
                    need(t == 5 || isRow(t));
                    put(1);
            }
            on();
        }
    }

    int state(int k, int slot) {
        State s = states.get(k);
        if (s == null) return -1;
        List<Integer> subs = new ArrayList<>(s.subs.keySet());
        if (slot >= 0 && slot < 12) return slot < s.locals.size() ? s.locals.get(slot) : 0;
        if (slot >= 16 && slot < 28) return slot - 16 < s.stack.size() ? s.stack.get(slot - 16) : -1;
        if (slot == 32) return s.stack.size();
        if (slot == 33) return subs.size();
        if (slot >= 34 && slot < 40) return slot - 34 < subs.size() ? subs.get(slot - 34) : -1;
        if (slot < 40 || slot >= 46 || slot - 40 >= subs.size()) return -1;
        int sum = 0;
        for (int local : s.subs.get(subs.get(slot - 40))) sum += 1 << local;
        return sum;
    }

    int begunSubs() {
        TreeSet<Integer> begun = new TreeSet<>();
        for (int k : states.keySet()) {
            if (code.get(k)[0] == 15) begun.add(code.get(k)[2]);
        }
        return begun.size();
    }
}
