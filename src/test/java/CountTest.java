/** Promises 3, 4 and 5 over several scripts on one object, and what count answers behind a fault. */
public final class CountTest {
    public static void main(String[] args) {
        whats();
        required();
        things();
        strings();
        oneAfterTheOther();
        lines();
        manyCalls();
        Desk.end();
    }

    private static void whats() {
        SieveDesk desk = new SieveDesk();
        Desk.put(desk, "keep;");
        int[] others = {4, -1, 5, 7, 8, 255, 256, Integer.MAX_VALUE, Integer.MIN_VALUE};
        for (int what : others) {
            Desk.due("count(" + what + ")", desk.count(what), -1);
        }
        Desk.due("count(0)", desk.count(0), 5);
    }

    private static void required() {
        String[] names = {"fileinto", "reject", "envelope", "copy", "imap4flags", "relational", "vacation",
            "comparator-i;ascii-numeric"};
        StringBuilder all = new StringBuilder();
        for (int i = 0; i < names.length; i++) {
            Desk.read("require\"" + names[i] + "\";", 0, 1, 1 << i);
            all.append("require\"").append(names[i]).append("\";");
            Desk.read(all.toString(), 0, i + 1, (2 << i) - 1);
        }
        Desk.read("require\"copy\";require[\"copy\",\"COPY\"];", 0, 3, 8);
        Desk.read("require[\"copy\",<!>\"x\",\"fileinto\"];", 0, 2, 8);
        Desk.read("require\"copy\"<!>", 0, 1, 8);
        Desk.read("require[\"copy\"<!>\"reject\"];", 0, 1, 8);
        Desk.read("require\"vacation\";keep;<!>require\"copy\";", 1, 1, 64);
        Desk.read("require\"copy\";if exists\"fileinto\"{}", 2, 2, 8);
    }

    private static void things() {
        Desk.read("", 0, 0, 0);
        Desk.read("<!>foo", 0, 0, 0);
        Desk.read("keep;<!>foo;", 1, 0, 0);
        Desk.read("keep<!>", 1, 0, 0);
        Desk.read("<!>fileinto\"x\";", 0, 0, 0);
        Desk.read("if<!>", 1, 0, 0);
        Desk.read("if true<!>", 2, 0, 0);
        Desk.read("if true{}elsif true{}else{}", 3, 0, 0);
        Desk.read("if true{}elsif<!>", 2, 0, 0);
        Desk.read("if not allof(true,<!>hasflag\"a\"){}", 4, 0, 0);
        Desk.read("if header<!>:all\"a\"\"b\"{}", 2, 0, 0);
        Desk.read("if true{keep;}stop;discard;", 5, 0, 0);
        Desk.read("keep; <!>/*", 1, 0, 0);
        Desk.read("if " + "not ".repeat(8) + "<!>true{}", 9, 0, 0);
        Desk.read("if true{".repeat(8) + "<!>if true{", 16, 0, 0);
    }

    private static void strings() {
        Desk.read("redirect<!>\"a\";", 1, 1, 0);
        Desk.read("require<!>\"a\";", 0, 1, 0);
        Desk.read("require\"fileinto\";fileinto<!>\"\";", 1, 2, 1);
        Desk.read("require\"relational\";if header:count<!>\"x\"\"a\"\"b\"{}", 2, 2, 32);
        Desk.read("if header:comparator<!>\"x\"\"a\"\"b\"{}", 2, 1, 0);
        Desk.read("if header:comparator<!>\"i;ascii-numeric\"\"a\"\"b\"{}", 2, 1, 0);
        Desk.read("keep<!>\"a\";", 1, 0, 0);
        Desk.read("redirect\"a@b\"<!>\"c\";", 1, 1, 0);
        Desk.read("redirect<!>\"a@b;", 1, 0, 0);
        Desk.read("require\"reject\";reject<!>\"" + "a".repeat(201) + "\";", 1, 1, 2);
        Desk.read("if exists[" + "\"a\",".repeat(10) + "<!>\"a\"]{}", 2, 10, 0);
        Desk.read("require[" + "\"copy\",".repeat(10) + "<!>\"x\"];", 0, 10, 8);
        Desk.read("require\"reject\";reject text:\na\n.\n;", 1, 2, 2);
        Desk.read("redirect <!>text:\na\n.\n;", 1, 1, 0);
        Desk.read("redirect <!>text:\na\n.", 1, 0, 0);
    }

    private static void oneAfterTheOther() {
        SieveDesk desk = new SieveDesk();
        Desk.put(desk, "require\"copy\";\nredirect:copy\"x\";");
        Desk.due("check()", desk.check(), 2);
        Desk.due("place()", desk.place(), 28);
        Desk.put(desk, "keep;");
        Desk.due("place() is still the last check's", desk.place(), 28);
        Desk.due("count(0) is of what is put", desk.count(0), 5);
        Desk.due("count(1) is still the last check's", desk.count(1), 1);
        Desk.due("count(2)", desk.count(2), 2);
        Desk.due("count(3)", desk.count(3), 8);
        Desk.due("a refused put", desk.put(0, 0), false);
        Desk.due("place() behind it", desk.place(), 28);
        Desk.due("check()", desk.check(), 0);
        Desk.due("place()", desk.place(), -1);
        Desk.due("count(1)", desk.count(1), 1);
        Desk.due("count(2)", desk.count(2), 0);
        Desk.due("count(3)", desk.count(3), 0);
        // What an earlier script required, or left open, is no part of the next one.
        Desk.put(desk, "require\"copy\";if true{if not(");
        Desk.due("check()", desk.check(), 1);
        Desk.put(desk, "redirect:copy\"a@b\";");
        Desk.due("check()", desk.check(), 1);
        Desk.due("place()", desk.place(), 8);
        Desk.put(desk, "}");
        Desk.due("check()", desk.check(), 1);
        Desk.due("place()", desk.place(), 0);
        staleBytes(desk);
        Desk.due("check() of no script", desk.check(), 0);
        Desk.due("place()", desk.place(), -1);
        Desk.due("count(1)", desk.count(1), 0);
    }

    /** What an earlier, longer script left behind the end must not be read. */
    private static void staleBytes(SieveDesk desk) {
        String[] parts = {"keep", ";", "require\"reject\";reject text:\n.", "\n;", "require\"reject\";reject text:\n.\r",
            "\n;", "/*", "*/", "/* *", "/", "redirect\"a@b", "\";", "redirect\"a@b\\", "x\";", "if true{", "}",
            "if true{\n", "\n}", "if size:over 1", "{}", "if size:over", " 1{}"};
        for (int i = 0; i < parts.length; i += 2) {
            Desk.put(desk, parts[i] + parts[i + 1]);
            Desk.due(parts[i] + parts[i + 1] + ": check()", desk.check(), 0);
            Desk.put(desk, parts[i]);
            Desk.due(parts[i] + ": is at fault", desk.check() > 0, true);
        }
        Desk.put(desk, "\n".repeat(400));
        Desk.due("check()", desk.check(), 0);
        Desk.put(desk, "keep");
        Desk.due("check()", desk.check(), 1);
        Desk.due("place()", desk.place(), 4);
        Desk.put(desk, "keep;kk");
        Desk.due("check()", desk.check(), 1);
        Desk.put(desk, "if size:over 1k{}");
        Desk.due("check()", desk.check(), 0);
        Desk.put(desk, "if size:over 1");
        Desk.due("check()", desk.check(), 1);
        Desk.due("place()", desk.place(), 14);
    }

    private static void lines() {
        SieveDesk desk = new SieveDesk();
        Desk.put(desk, "\n".repeat(399) + "}");
        Desk.due("check()", desk.check(), 400);
        Desk.due("place()", desk.place(), 399);
        Desk.put(desk, "if true{" + "\n".repeat(392));
        Desk.due("check()", desk.check(), 393);
        Desk.due("place()", desk.place(), 400);
        Desk.put(desk, "foo" + "\n".repeat(300));
        Desk.due("check()", desk.check(), 1);
        Desk.put(desk, "\r\r\n\r}");
        Desk.due("check()", desk.check(), 2);
        Desk.due("place()", desk.place(), 4);
        Desk.put(desk, "if exists[\"\n\n\",\n\"\\\n\"/*\n*/#\n<");
        Desk.due("check()", desk.check(), 7);
    }

    private static void manyCalls() {
        SieveDesk desk = new SieveDesk();
        for (int turn = 0; turn < 128; turn++) {
            Desk.due("put", desk.put(0x6b6565703bL, 5), true);
            Desk.due("count(0)", desk.count(0), 5);
            Desk.due("check()", desk.check(), 0);
            Desk.due("count(1)", desk.count(1), 1);
        }
    }
}
