/** Promises 2, 11, 12: CLASSES, and how TYPES are JOINED and GO FOR one another. */
public final class TypesTest {
    public static void main(String[] args) {
        classes();
        joined();
        joinedUpwards();
        goes();
        refusals();
        Script.end();
    }

    private static void classes() {
        Script s = new Script("classes");
        s.due("cls(-1)", s.gate.cls(-1, false), -1);
        s.due("cls(2)", s.gate.cls(2, false), -1);
        s.due("cls(max)", s.gate.cls(Integer.MAX_VALUE, true), -1);
        s.due("cls(min)", s.gate.cls(Integer.MIN_VALUE, true), -1);
        s.count(0, 2);
        for (int c = 2; c < 10; c++) s.due("cls", s.gate.cls(c - 1, c % 2 == 0), c).count(0, c + 1);
        s.due("an eleventh", s.gate.cls(0, false), -2);
        s.due("an eleventh under none", s.gate.cls(10, false), -1);
        s.count(0, 10);
        s.due("goes of the tenth", s.gate.goes(25, 16), 1);
        s.due("no eleventh type", s.gate.goes(26, 16), -1);
    }

    /** 2 and 5 under OBJECT, 3 and 4 under 2, 6 an INTERFACE, 7 under THROWN, 8 under the INTERFACE, 9 too. */
    private static Script family(String name) {
        Script s = new Script(name);
        FlowGate x = s.gate;
        s.due("cls", x.cls(0, false), 2).due("cls", x.cls(2, false), 3).due("cls", x.cls(2, false), 4);
        s.due("cls", x.cls(0, false), 5).due("cls", x.cls(0, true), 6).due("cls", x.cls(1, false), 7);
        return s.due("cls", x.cls(6, false), 8).due("cls", x.cls(6, false), 9);
    }

    private static void joinBoth(Script s, int a, int b, int want) {
        s.due("join(" + a + ", " + b + ")", s.gate.join(a, b), want);
        s.due("join(" + b + ", " + a + ")", s.gate.join(b, a), want);
    }

    private static void joined() {
        Script s = family("joined");
        for (int t = 0; t <= 5; t++) joinBoth(s, t, t, t);
        joinBoth(s, 1, 2, 0);
        joinBoth(s, 3, 4, 0);
        joinBoth(s, 0, 5, 0);
        joinBoth(s, 0, 16, 0);
        joinBoth(s, 1, 16, 0);
        joinBoth(s, 1, 5, 0);
        joinBoth(s, 1, 76, 0);
        joinBoth(s, 5, 19, 19);
        joinBoth(s, 5, 204, 204);
        joinBoth(s, 5, 22, 22);
        joinBoth(s, 22, 22, 22);
        joinBoth(s, 22, 19, 16);
        joinBoth(s, 86, 83, 80);
        joinBoth(s, 19, 20, 18);
        joinBoth(s, 18, 20, 18);
        joinBoth(s, 19, 21, 16);
        joinBoth(s, 19, 23, 16);
        joinBoth(s, 17, 23, 17);
        joinBoth(s, 22, 24, 16);
        joinBoth(s, 24, 25, 22);
        joinBoth(s, 88, 89, 86);
        joinBoth(s, 83, 84, 82);
        joinBoth(s, 147, 148, 146);
        joinBoth(s, 211, 212, 210);
        joinBoth(s, 83, 85, 80);
        joinBoth(s, 83, 147, 80);
        joinBoth(s, 83, 19, 16);
        joinBoth(s, 76, 19, 16);
        joinBoth(s, 76, 83, 16);
        joinBoth(s, 76, 140, 16);
        joinBoth(s, 76, 204, 16);
        joinBoth(s, 76, 147, 16);
        joinBoth(s, 140, 80, 80);
        joinBoth(s, 140, 83, 80);
        joinBoth(s, 140, 144, 80);
        joinBoth(s, 140, 204, 80);
        joinBoth(s, 204, 208, 144);
        joinBoth(s, 204, 147, 144);
        joinBoth(s, 204, 83, 80);
        joinBoth(s, 211, 140, 80);
        joinBoth(s, 76, 76, 76);
    }

    private static void joinedUpwards() {
        Script s = new Script("upwards");
        for (int c = 2; c < 10; c++) s.due("cls", s.gate.cls(c - 1, false), c);
        for (int c = 0; c < 10; c++) {
            for (int d = 0; d < 10; d++) {
                joinBoth(s, 16 + c, 16 + d, 16 + Math.min(c, d));
                s.due("goes(" + (16 + c) + ", " + (16 + d) + ")", s.gate.goes(16 + c, 16 + d), c >= d ? 1 : 0);
                s.due("rows", s.gate.goes(208 + c, 208 + d), c >= d ? 1 : 0);
            }
        }
    }

    private static void goes(Script s, int a, int b, int want) {
        s.due("goes(" + a + ", " + b + ")", s.gate.goes(a, b), want);
    }

    private static void goes() {
        Script s = family("goes");
        for (int a = 0; a <= 5; a++) {
            for (int b = 0; b <= 5; b++) goes(s, a, b, a == b ? 1 : 0);
        }
        for (int t : new int[] {16, 17, 22, 25, 76, 80, 89, 140, 144, 204, 217}) {
            goes(s, t, t, 1);
            goes(s, t, 16, 1);
            goes(s, 5, t, 1);
            goes(s, t, 5, 0);
            goes(s, 1, t, 0);
            goes(s, t, 1, 0);
            goes(s, 0, t, 0);
        }
        goes(s, 19, 18, 1);
        goes(s, 18, 19, 0);
        goes(s, 19, 20, 0);
        goes(s, 19, 22, 1);
        goes(s, 16, 22, 1);
        goes(s, 22, 19, 0);
        goes(s, 24, 22, 1);
        goes(s, 76, 22, 0);
        goes(s, 80, 22, 0);
        goes(s, 83, 86, 1);
        goes(s, 147, 86, 0);
        goes(s, 147, 80, 1);
        goes(s, 211, 80, 1);
        goes(s, 211, 144, 1);
        goes(s, 83, 82, 1);
        goes(s, 82, 83, 0);
        goes(s, 83, 19, 0);
        goes(s, 19, 83, 0);
        goes(s, 76, 80, 0);
        goes(s, 80, 76, 0);
        goes(s, 76, 140, 0);
        goes(s, 140, 76, 0);
        goes(s, 140, 80, 1);
        goes(s, 140, 81, 0);
        goes(s, 140, 144, 0);
        goes(s, 204, 144, 1);
        goes(s, 204, 80, 1);
        goes(s, 204, 208, 0);
    }

    private static void refusals() {
        Script s = new Script("refusals");
        int[] none = {-1, 6, 11, 12, 15, 18, 25, 26, 63, 64, 75, 77, 79, 82, 139, 141, 146, 203, 210, 256, 268, 272,
            999, 1000, 1047, 2000, 2047, Integer.MAX_VALUE, Integer.MIN_VALUE, -48, -52};
        for (int t : none) {
            for (int u : new int[] {0, 5, 16, t}) {
                joinBoth(s, t, u, -1);
                goes(s, t, u, -1);
                goes(s, u, t, -1);
            }
        }
        s.due("cls", s.gate.cls(0, false), 2);
        joinBoth(s, 18, 18, 18);
        joinBoth(s, 210, 5, 210);
    }
}
