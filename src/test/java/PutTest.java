/** Promise 2: put. */
public final class PutTest {
    public static void main(String[] args) {
        order();
        refused();
        full();
        Desk.end();
    }

    private static void order() {
        SieveDesk desk = new SieveDesk();
        // Only the lowest n bytes count, the highest of them first.
        Desk.due("put(..keep, 4)", desk.put(0x6666_6666_6b65_6570L, 4), true);
        Desk.due("put(-197, 1)", desk.put(-197L, 1), true);
        Desk.due("count(0)", desk.count(0), 5);
        Desk.due("check()", desk.check(), 0);
        Desk.due("count(1)", desk.count(1), 1);
        // A highest byte of 128 or more is not a token, wherever it stands.
        Desk.due("put(-1, 8)", desk.put(-1L, 8), true);
        Desk.due("check()", desk.check(), 1);
        Desk.due("place()", desk.place(), 0);
        Desk.due("put(discard;, 8)", desk.put(0x64697363_6172643bL, 8), true);
        Desk.due("check()", desk.check(), 0);
        Desk.due("put(stop;.., 7)", desk.put(0x9973746f_703b0a20L, 7), true);
        Desk.due("check()", desk.check(), 0);
        Desk.due("count(1)", desk.count(1), 1);
    }

    private static void refused() {
        SieveDesk desk = new SieveDesk();
        Desk.put(desk, "keep");
        int[] wrong = {0, 9, -1, 10, 16, -8, Integer.MAX_VALUE, Integer.MIN_VALUE};
        for (int n : wrong) {
            Desk.due("put(1, " + n + ")", desk.put(1L, n), false);
            Desk.due("count(0) behind it", desk.count(0), 4);
        }
        Desk.due("put(;, 1)", desk.put(';', 1), true);
        Desk.due("check()", desk.check(), 0);
    }

    private static void full() {
        SieveDesk desk = new SieveDesk();
        for (int i = 0; i < 49; i++) {
            Desk.due("put number " + i, desk.put(0x2020202020202020L, 8), true);
        }
        Desk.due("put(.., 5)", desk.put(0x6b6565703bL, 5), true);
        Desk.due("count(0)", desk.count(0), 397);
        Desk.due("put(.., 4) would be 401", desk.put(0x20202020L, 4), false);
        Desk.due("put(.., 8) would be 405", desk.put(-1L, 8), false);
        Desk.due("put(.., max) would wrap", desk.put(-1L, Integer.MAX_VALUE), false);
        Desk.due("count(0)", desk.count(0), 397);
        Desk.due("put(.., 3) is 400", desk.put(0x202020L, 3), true);
        Desk.due("put(.., 1) would be 401", desk.put(' ', 1), false);
        Desk.due("count(0)", desk.count(0), 400);
        Desk.due("check()", desk.check(), 0);
        Desk.due("count(1)", desk.count(1), 1);
        Desk.due("count(0) behind check", desk.count(0), 0);
        Desk.due("put behind check", desk.put(';', 1), true);
        Desk.due("check()", desk.check(), 1);
        Desk.due("place()", desk.place(), 0);
        Desk.due("400 signs", Desk.put(desk, "keep;".repeat(40) + "#".repeat(200)), true);
        Desk.due("check()", desk.check(), 0);
        Desk.due("count(1)", desk.count(1), 40);
        Desk.due("400 semicolons", Desk.put(desk, "stop" + ";".repeat(396)), true);
        Desk.due("check()", desk.check(), 1);
        Desk.due("place()", desk.place(), 5);
    }
}
