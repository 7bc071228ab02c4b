/** Promises 2, 11, 12: CLASSES, and how TYPES are JOINED and GO FOR one another. */
public final class TypesTest {
    public static void main(String[] args) {
        classes();
        joined();
        joinedUpwards();
        goes();
        refusals();
        Script.end();
    }

    private static void classes() {
        Script s = new Script("classes");
        s.due("cls(-1)", s.gate.cls(-1, false), -1);
        s.due("cls(2)", s.gate.cls(2, false), -1);
        s.due("cls(max)", s.gate.cls(Integer.MAX_VALUE, true), -1);
        s.due("cls(min)", s.gate.cls(Integer.MIN_VALUE, true), -1);
        s.count(0, 2);
        for (int c = 2; c < 10; c++) s.due("cls", s.gate.cls(c - 1, c % 2 == 0), c).count(0, c + 1);
        s.due("an eleventh", s.gate.cls(0, false), -2);
        s.due("an eleventh under none", s.gate.cls(10, false), -1);
        s.count(0, 10);
        s.due("goes of the tenth", s.gate.goes(25, 16), 1);
        s.due("no eleventh type", s.gate.goes(26, 16), -1);
    }

    /** 2 and 5 under OBJECT, 3 and 4 under 2, 6 an INTERFACE, 7 under THROWN, 8 under the INTERFACE, 9 too. */
    private static Script family(String name) {
        Script s = new Script(name);
        FlowGate x = s.gate;
        s.due("cls", x.cls(0, false), 2).due("cls", x.cls(2, false), 3).due("cls", x.cls(2, false), 4);
        s.due("cls", x.cls(0, false), 5).due("cls", x.cls(0, true), 6).due("cls", x.cls(1, false), 7);
        return s.due("cls", x.cls(6, false), 8).due("cls", x.cls(6, false), 9);
    }

    private static void joined() {
        Script s = family("joined");
        for (int t = 0; t <= 5; t++) s.join(t, t, t);
        s.join(1, 2, 0);
        s.join(3, 4, 0);
        s.join(0, 5, 0);
        s.join(0, 16, 0);
        s.join(1, 16, 0);
        s.join(1, 5, 0);
        s.join(1, 76, 0);
        s.join(5, 19, 19);
        s.join(5, 204, 204);
        s.join(5, 22, 22);
        s.join(22, 22, 22);
        s.join(22, 19, 16);
        s.join(86, 83, 80);
        s.join(19, 20, 18);
        s.join(18, 20, 18);
        s.join(19, 21, 16);
        s.join(19, 23, 16);
        s.join(17, 23, 17);
        s.join(22, 24, 16);
        s.join(24, 25, 22);
        s.join(88, 89, 86);
        s.join(83, 84, 82);
        s.join(147, 148, 146);
        s.join(211, 212, 210);
        s.join(83, 85, 80);
        s.join(83, 147, 80);
        s.join(83, 19, 16);
        s.join(76, 19, 16);
        s.join(76, 83, 16);
        s.join(76, 140, 16);
        s.join(76, 204, 16);
        s.join(76, 147, 16);
        s.join(140, 80, 80);
        s.join(140, 83, 80);
        s.join(140, 144, 80);
        s.join(140, 204, 80);
        s.join(204, 208, 144);
        s.join(204, 147, 144);
        s.join(204, 83, 80);
        s.join(211, 140, 80);
        s.join(76, 76, 76);
    }

    private static void joinedUpwards() {
        Script s = new Script("upwards");
        for (int c = 2; c < 10; c++) s.due("cls", s.gate.cls(c - 1, false), c);
        for (int c = 0; c < 10; c++) {
            for (int d = 0; d < 10; d++) {
                s.join(16 + c, 16 + d, 16 + Math.min(c, d));
                s.due("goes(" + (16 + c) + ", " + (16 + d) + ")", s.gate.goes(16 + c, 16 + d), c >= d ? 1 : 0);
                s.due("rows", s.gate.goes(208 + c, 208 + d), c >= d ? 1 : 0);
            }
        }
    }

    private static void goes() {
        Script s = family("goes");
        for (int a = 0; a <= 5; a++) {
            for (int b = 0; b <= 5; b++) s.goes(a, b, a == b ? 1 : 0);
        }
        for (int t : new int[] {16, 17, 22, 25, 76, 80, 89, 140, 144, 204, 217}) {
            s.goes(t, t, 1);
            s.goes(t, 16, 1);
            s.goes(5, t, 1);
            s.goes(t, 5, 0);
            s.goes(1, t, 0);
            s.goes(t, 1, 0);
            s.goes(0, t, 0);
        }
        s.goes(19, 18, 1);
        s.goes(18, 19, 0);
        s.goes(19, 20, 0);
        s.goes(19, 22, 1);
        s.goes(16, 22, 1);
        s.goes(22, 19, 0);
        s.goes(24, 22, 1);
        s.goes(76, 22, 0);
        s.goes(80, 22, 0);
        s.goes(83, 86, 1);
        s.goes(147, 86, 0);
        s.goes(147, 80, 1);
        s.goes(211, 80, 1);
        s.goes(211, 144, 1);
        s.goes(83, 82, 1);
        s.goes(82, 83, 0);
        s.goes(83, 19, 0);
        s.goes(19, 83, 0);
        s.goes(76, 80, 0);
        s.goes(80, 76, 0);
        s.goes(76, 140, 0);
        s.goes(140, 76, 0);
        s.goes(140, 80, 1);
        s.goes(140, 81, 0);
        s.goes(140, 144, 0);
        s.goes(204, 144, 1);
        s.goes(204, 80, 1);
        s.goes(204, 208, 0);
    }

    private static void refusals() {
        Script s = new Script("refusals");
        int[] none = {-1, 6, 11, 12, 15, 18, 25, 26, 63, 64, 75, 77, 79, 82, 139, 141, 146, 203, 210, 256, 268, 272,
            999, 1000, 1047, 2000, 2047, Integer.MAX_VALUE, Integer.MIN_VALUE, -48, -52};
        for (int t : none) {
            for (int u : new int[] {0, 5, 16, t}) {
                s.join(t, u, -1);
                s.goes(t, u, -1);
                s.goes(u, t, -1);
            }
        }
        s.due("cls", s.gate.cls(0, false), 2);
        s.join(18, 18, 18);
        s.join(210, 5, 210);
    }
}
