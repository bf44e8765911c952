/** Promise 2: put. */
public final class PutTest {
    private static final int[] WRONG = {0, 9, -1, 10, 16, 17, 64, 255, 256, 257, 264, -7, -8, -248, -255, 1 << 16, 1 << 30,
        Integer.MAX_VALUE, Integer.MAX_VALUE - 7, Integer.MIN_VALUE, Integer.MIN_VALUE + 1, Integer.MIN_VALUE + 8};

    public static void main(String[] args) {
        order();
        eachByte();
        notOneToEight();
        moreThan400();
        wrapsAround();
        refusedChangesNothing();
        full();
        Desk.end();
    }

    private static void order() {
        Desk.sentence("The lowest n bytes of v, the highest of them first, come behind the script: true");
        SieveDesk desk = new SieveDesk();
        Desk.due("put(..keep, 4)", desk.put(0x6666_6666_6b65_6570L, 4), true);
        Desk.due("put(-197, 1)", desk.put(-197L, 1), true);
        Desk.due("count(0)", desk.count(0), 5);
        Desk.due("check()", desk.check(), 0);
        Desk.due("count(1)", desk.count(1), 1);
        Desk.due("put(-1, 8)", desk.put(-1L, 8), true);
        Desk.due("check()", desk.check(), 1);
        Desk.due("place()", desk.place(), 0);
        Desk.due("put(discard;, 8)", desk.put(0x64697363_6172643bL, 8), true);
        Desk.due("check()", desk.check(), 0);
        Desk.due("put(stop;.., 7)", desk.put(0x9973746f_703b0a20L, 7), true);
        Desk.due("check()", desk.check(), 0);
        Desk.due("count(1)", desk.count(1), 1);
    }

    /** Blanks with one } among them: for each n, and each of the n bytes, the place tells which it was. */
    private static void eachByte() {
        for (int n = 1; n <= 8; n++) {
            for (int i = 0; i < n; i++) {
                // The bytes above the lowest n are } too, and must not come in.
                long v = 0x7d7d7d7d7d7d7d7dL;
                for (int k = 0; k < n; k++) {
                    int shift = 8 * (n - 1 - k);
                    v = v & ~(255L << shift) | (k == i ? 0x7dL : 0x20L) << shift;
                }
                SieveDesk desk = new SieveDesk();
                Desk.due("put(\\n, 1)", desk.put('\n', 1), true);
                Desk.due("put(" + v + ", " + n + ")", desk.put(v, n), true);
                Desk.due("count(0)", desk.count(0), n + 1);
                Desk.due("check()", desk.check(), 2);
                Desk.due("place()", desk.place(), i + 1);
            }
        }
    }

    private static void notOneToEight() {
        Desk.sentence("false if n is not 1 .. 8");
        long[] values = {0, 1, -1, Long.MAX_VALUE, Long.MIN_VALUE};
        for (long v : values) {
            SieveDesk desk = new SieveDesk();
            for (int n : WRONG) {
                Desk.due("put(" + v + ", " + n + ")", desk.put(v, n), false);
                Desk.due("count(0) behind it", desk.count(0), 0);
            }
            int bytes = 0;
            for (int n = 1; n <= 8; n++) {
                Desk.due("put(" + v + ", " + n + ")", desk.put(v, n), true);
                bytes += n;
                Desk.due("count(0) behind it", desk.count(0), bytes);
            }
        }
    }

    private static SieveDesk blanks(int many) {
        SieveDesk desk = new SieveDesk();
        Desk.due(many + " blanks", Desk.put(desk, " ".repeat(many)), true);
        Desk.due(many + " blanks: count(0)", desk.count(0), many);
        return desk;
    }

    private static void moreThan400() {
        Desk.sentence("or there would be more than 400");
        for (int n = 1; n <= 8; n++) {
            SieveDesk desk = blanks(400 - n);
            Desk.due("put(0, " + n + ") comes to 400", desk.put(0, n), true);
            Desk.due("count(0)", desk.count(0), 400);
            Desk.due("check()", desk.check(), 1);
            Desk.due("place()", desk.place(), 400 - n);

            desk = blanks(401 - n);
            Desk.due("put(0, " + n + ") would come to 401", desk.put(0, n), false);
            Desk.due("count(0)", desk.count(0), 401 - n);
            if (n > 1) {
                Desk.due("put(.., " + (n - 1) + ") comes to 400", desk.put(0x2020202020202020L, n - 1), true);
            }
            Desk.due("count(0)", desk.count(0), 400);
            Desk.due("check()", desk.check(), 0);

            desk = blanks(400);
            Desk.due("put(0, " + n + ") into a full one", desk.put(0, n), false);
            Desk.due("count(0)", desk.count(0), 400);
            Desk.due("check()", desk.check(), 0);
        }
    }

    /** An n that would make the sum wrap around is refused as any other. */
    private static void wrapsAround() {
        for (int many : new int[] {1, 8, 392, 399, 400}) {
            SieveDesk desk = blanks(many);
            for (int n : WRONG) {
                Desk.due("put(0, " + n + ") behind " + many, desk.put(0, n), false);
            }
            Desk.due("count(0)", desk.count(0), many);
            Desk.due("check()", desk.check(), 0);
        }
    }

    private static void refusedChangesNothing() {
        Desk.sentence("A call that is refused changes nothing.");
        SieveDesk desk = new SieveDesk();
        Desk.put(desk, "require\"copy\";\nredirect\"x\";");
        Desk.due("check()", desk.check(), 2);
        Desk.put(desk, "keep");
        int[] bad = {0, 9, -1, Integer.MIN_VALUE};
        for (int n : bad) {
            Desk.due("put(-1, " + n + ")", desk.put(-1L, n), false);
            Desk.due("count(0)", desk.count(0), 4);
            Desk.due("place()", desk.place(), 23);
            Desk.due("count(1)", desk.count(1), 1);
            Desk.due("count(2)", desk.count(2), 2);
            Desk.due("count(3)", desk.count(3), 8);
            Desk.due("count(9)", desk.count(9), -1);
        }
        Desk.due("put(;, 1)", desk.put(';', 1), true);
        Desk.due("390 more", Desk.put(desk, " ".repeat(390)), true);
        Desk.due("put(-1, 6) would come to 401", desk.put(-1L, 6), false);
        Desk.due("count(0)", desk.count(0), 395);
        Desk.due("place()", desk.place(), 23);
        Desk.due("put(stop;, 5)", desk.put(0x73746f703bL, 5), true);
        Desk.due("put(-1, 1)", desk.put(-1L, 1), false);
        Desk.due("check()", desk.check(), 0);
        Desk.due("count(1)", desk.count(1), 2);
    }

    private static void full() {
        Desk.sentence("A SCRIPT are up to 400 bytes");
        SieveDesk desk = new SieveDesk();
        for (int turn = 0; turn < 2; turn++) {
            Desk.due("put", Desk.put(desk, "keep;".repeat(40) + "#".repeat(200)), true);
            Desk.due("put(.., 1) would be 401", desk.put('\n', 1), false);
            Desk.due("count(0)", desk.count(0), 400);
            Desk.due("check()", desk.check(), 0);
            Desk.due("count(1)", desk.count(1), 40);
            Desk.due("count(0) behind check", desk.count(0), 0);
        }
        Desk.due("put behind a full one that was checked", desk.put(';', 1), true);
        Desk.due("check()", desk.check(), 1);
        Desk.due("place()", desk.place(), 0);
        Desk.due("396 semicolons", Desk.put(desk, "stop" + ";".repeat(396)), true);
        Desk.due("check()", desk.check(), 1);
        Desk.due("place()", desk.place(), 5);
    }
}
