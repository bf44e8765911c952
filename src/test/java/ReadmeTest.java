/** The answers that README.md tells of its example, and of a text that is put byte by byte. */
public final class ReadmeTest {
    public static void main(String[] args) {
        SieveDesk desk = new SieveDesk();
        Desk.due("put(0x6b6565703b0aL, 6)", desk.put(0x6b6565703b0aL, 6), true);
        Desk.due("put(0x666f6f3bL, 4)", desk.put(0x666f6f3bL, 4), true);
        Desk.due("count(0)", desk.count(0), 10);
        Desk.due("check()", desk.check(), 2);
        Desk.due("place()", desk.place(), 6);
        Desk.due("count(1)", desk.count(1), 1);
        Desk.due("count(2)", desk.count(2), 0);
        Desk.due("count(3)", desk.count(3), 0);

        String text = "require [\"fileinto\", \"copy\"];\nif size :over 1M { fileinto :copy \"big\"; } else { keep; }\n";
        for (int i = 0; i < text.length(); i++) {
            Desk.due("put(" + text.charAt(i) + ", 1)", desk.put(text.charAt(i), 1), true);
        }
        Desk.due("count(0)", desk.count(0), text.length());
        Desk.due("check()", desk.check(), 0);
        Desk.due("place()", desk.place(), -1);
        Desk.due("count(1)", desk.count(1), 4);
        Desk.due("count(2)", desk.count(2), 3);
        Desk.due("count(3)", desk.count(3), 9);
        Desk.end();
    }
}
