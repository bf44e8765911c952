/** Promises 3, 4 and 5 over several scripts on one object, and what count answers behind a fault. */
public final class CountTest {
    /** Tokens; behind a | what one adds: c a command or test, s a string, a number what is required. */
    private static final String[] WALKS = {
        "require [ \"fileinto\"|1 , \"copy\"|8 , \"imap4flags\"|16 ] ; require \"relational\"|32 ; require \"COPY\"|8 ; "
            + "if|c allof|c ( header|c :count \"ge\"|s :comparator \"i;octet\"|s [ \"a\"|s , \"b\"|s ] \"c\"|s , "
            + "not|c size|c :over 1K , hasflag|c \"x\"|s ) { fileinto|c :copy :flags \"f\"|s \"box\"|s ; } "
            + "keep|c :flags [ \"a\"|s ] ;",
        "require [ \"reject\"|2 , \"envelope\"|4 , \"vacation\"|64 , \"comparator-i;ascii-numeric\"|128 ] ; "
            + "if|c true|c { stop|c ; } elsif exists|c text:\n.\n|s { if|c false|c { } } else { discard|c ; } "
            + "vacation|c :days 1 :subject \"s\"|s :addresses [ \"a\"|s , \"b\"|s ] :handle \"h\"|s \"r\"|s ; "
            + "redirect|c \"a@b\"|s ; reject|c \"\"|s ; "
            + "if|c envelope|c :domain :comparator \"i;ascii-numeric\"|s \"a\"|s \"b\"|s { }"};

    public static void main(String[] args) {
        whats();
        aheadOfTheFault();
        byWhatItSays();
        oneCheckEach();
        required();
        things();
        strings();
        oneAfterTheOther();
        lines();
        manyCalls();
        Desk.end();
    }

    private static void whats() {
        Desk.sentence("-1 for another what");
        SieveDesk desk = new SieveDesk();
        int[] others = {4, -1, 5, 7, 8, 16, 255, 256, 257, -2, -3, 1 << 16, Integer.MAX_VALUE, Integer.MIN_VALUE};
        String[] scripts = {"", "keep;", "require\"copy\";redirect:copy\"a\";"};
        for (String script : scripts) {
            for (int what : others) {
                Desk.due("count(" + what + ")", desk.count(what), -1);
            }
            Desk.put(desk, script);
            Desk.due("count(0)", desk.count(0), script.length());
            for (int what : others) {
                Desk.due("put: count(" + what + ")", desk.count(what), -1);
            }
            desk.check();
        }
        Desk.due("the last what: count(3)", desk.count(3), 8);
        Desk.due("the one behind it: count(4)", desk.count(4), -1);
        Desk.due("the first what: count(0)", desk.count(0), 0);
        Desk.due("the one ahead of it: count(-1)", desk.count(-1), -1);
    }

    /** Cuts the scripts behind each token: by the end, and by what no script goes on with. */
    private static void aheadOfTheFault() {
        Desk.sentence("as far as it was read ahead of its fault's token");
        for (String walk : WALKS) {
            StringBuilder script = new StringBuilder();
            int things = 0;
            int strings = 0;
            int required = 0;
            for (String step : walk.split(" ")) {
                String[] token = step.split("\\|");
                String adds = token.length > 1 ? token[1] : "";
                cutByTheEnd(script.toString(), things, strings, required);
                Desk.read(script + "<!>@", things, strings, required);
                Desk.read(script + "<!>foo\n\"\" keep;", things, strings, required);
                Desk.read(script + "<!>/*" + token[0], things, strings, required);
                script.append(token[0]).append(' ');
                things += adds.equals("c") ? 1 : 0;
                strings += adds.isEmpty() || adds.equals("c") ? 0 : 1;
                required |= adds.matches("[0-9]+") ? Integer.parseInt(adds) : 0;
            }
            Desk.read(script.toString(), things, strings, required);
        }
    }

    /** Right or not: whether a script may end here is for other tests. */
    private static void cutByTheEnd(String script, int things, int strings, int required) {
        SieveDesk desk = new SieveDesk();
        Desk.put(desk, script);
        desk.check();
        Desk.due(script + ": count(1)", desk.count(1), things);
        Desk.due(script + ": count(2)", desk.count(2), strings);
        Desk.due(script + ": count(3)", desk.count(3), required);
    }

    /** Each such string counts; the same one where it is at fault for something else does not. */
    private static void byWhatItSays() {
        Desk.sentence("2 strings (one that is at fault by what it says counts, too)");
        Desk.read(Desk.ALL + "if header:count<!>\"x\"\"a\"\"b\"{}", 2, 9, 255);
        Desk.read(Desk.ALL + "if header:value<!>\"\"\"a\"\"b\"{}", 2, 9, 255);
        Desk.read(Desk.ALL + "if header:comparator<!>\"x\"\"a\"\"b\"{}", 2, 9, 255);
        Desk.read("if header:comparator<!>\"i;ascii-numeric\"\"a\"\"b\"{}", 2, 1, 0);
        Desk.read(Desk.ALL + "fileinto<!>\"\";", 1, 9, 255);
        Desk.read(Desk.ALL + "fileinto<!>\"" + "a".repeat(21) + "\";", 1, 9, 255);
        Desk.read(Desk.ALL + "fileinto<!>\"\n\";", 1, 9, 255);
        Desk.read(Desk.ALL + "redirect<!>\"x\";", 1, 9, 255);
        Desk.read(Desk.ALL + "redirect <!>text:\n.\n;", 1, 9, 255);
        Desk.read("require\"copy\";require<!>\"x\";", 0, 2, 8);
        Desk.read("require[\"copy\",<!>\"x\"];", 0, 2, 8);
        Desk.read(Desk.ALL + "fileinto<!>\"" + "a".repeat(201) + "\";", 1, 8, 255);
        Desk.read(Desk.ALL + "fileinto<!>\"x;", 1, 8, 255);
        Desk.read(Desk.ALL + "fileinto\"x\"<!>\"\";", 1, 9, 255);
        Desk.read(Desk.ALL + "keep<!>\"\";", 1, 8, 255);
        Desk.read(Desk.ALL + "<!>\"\";", 0, 8, 255);
        Desk.read("require[" + "\"copy\",".repeat(10) + "<!>\"x\"];", 0, 10, 8);
    }

    /** Nothing of one check, right or wrong, is left for the next. */
    private static void oneCheckEach() {
        Desk.sentence("of the last one that was checked");
        SieveDesk desk = new SieveDesk();
        for (int turn = 0; turn < 3; turn++) {
            Desk.put(desk, Desk.ALL + "if true{".repeat(8) + "if");
            Desk.due("check()", desk.check(), 1);
            Desk.due("count(1)", desk.count(1), 16);
            Desk.due("count(2)", desk.count(2), 8);
            Desk.due("count(3)", desk.count(3), 255);
            Desk.put(desk, "if " + "not ".repeat(8) + "true");
            Desk.due("check()", desk.check(), 1);
            Desk.due("count(1)", desk.count(1), 9);
            Desk.due("count(2)", desk.count(2), 0);
            Desk.due("count(3)", desk.count(3), 0);
            Desk.put(desk, "keep;".repeat(40));
            Desk.due("check()", desk.check(), 0);
            Desk.due("count(1)", desk.count(1), 40);
            Desk.put(desk, "require\"copy\";if true{redirect:copy\"a@b\";}");
            Desk.due("count(1) is of the script before", desk.count(1), 40);
            Desk.due("check()", desk.check(), 0);
            Desk.due("count(1)", desk.count(1), 3);
            Desk.due("count(2)", desk.count(2), 2);
            Desk.due("count(3)", desk.count(3), 8);
            Desk.due("check() of no script", desk.check(), 0);
            for (int what = 0; what <= 3; what++) {
                Desk.due("count(" + what + ")", desk.count(what), 0);
            }
        }
    }

    private static void required() {
        String[] names = {"fileinto", "reject", "envelope", "copy", "imap4flags", "relational", "vacation",
            "comparator-i;ascii-numeric"};
        StringBuilder all = new StringBuilder();
        for (int i = 0; i < names.length; i++) {
            Desk.read("require\"" + names[i] + "\";", 0, 1, 1 << i);
            all.append("require\"").append(names[i]).append("\";");
            Desk.read(all.toString(), 0, i + 1, (2 << i) - 1);
        }
        Desk.read("require\"copy\";require[\"copy\",\"COPY\"];", 0, 3, 8);
        Desk.read("require[\"copy\",<!>\"x\",\"fileinto\"];", 0, 2, 8);
        Desk.read("require\"copy\"<!>", 0, 1, 8);
        Desk.read("require[\"copy\"<!>\"reject\"];", 0, 1, 8);
        Desk.read("require\"vacation\";keep;<!>require\"copy\";", 1, 1, 64);
        Desk.read("require\"copy\";if exists\"fileinto\"{}", 2, 2, 8);
    }

    private static void things() {
        Desk.read("", 0, 0, 0);
        Desk.read("<!>foo", 0, 0, 0);
        Desk.read("keep;<!>foo;", 1, 0, 0);
        Desk.read("keep<!>", 1, 0, 0);
        Desk.read("<!>fileinto\"x\";", 0, 0, 0);
        Desk.read("if<!>", 1, 0, 0);
        Desk.read("if true<!>", 2, 0, 0);
        Desk.read("if true{}elsif true{}else{}", 3, 0, 0);
        Desk.read("if true{}elsif<!>", 2, 0, 0);
        Desk.read("if not allof(true,<!>hasflag\"a\"){}", 4, 0, 0);
        Desk.read("if header<!>:all\"a\"\"b\"{}", 2, 0, 0);
        Desk.read("if true{keep;}stop;discard;", 5, 0, 0);
        Desk.read("keep; <!>/*", 1, 0, 0);
        Desk.read("if " + "not ".repeat(8) + "<!>true{}", 9, 0, 0);
        Desk.read("if true{".repeat(8) + "<!>if true{", 16, 0, 0);
    }

    private static void strings() {
        Desk.read("redirect<!>\"a\";", 1, 1, 0);
        Desk.read("require<!>\"a\";", 0, 1, 0);
        Desk.read("require\"fileinto\";fileinto<!>\"\";", 1, 2, 1);
        Desk.read("require\"relational\";if header:count<!>\"x\"\"a\"\"b\"{}", 2, 2, 32);
        Desk.read("if header:comparator<!>\"x\"\"a\"\"b\"{}", 2, 1, 0);
        Desk.read("if header:comparator<!>\"i;ascii-numeric\"\"a\"\"b\"{}", 2, 1, 0);
        Desk.read("keep<!>\"a\";", 1, 0, 0);
        Desk.read("redirect\"a@b\"<!>\"c\";", 1, 1, 0);
        Desk.read("redirect<!>\"a@b;", 1, 0, 0);
        Desk.read("require\"reject\";reject<!>\"" + "a".repeat(201) + "\";", 1, 1, 2);
        Desk.read("if exists[" + "\"a\",".repeat(10) + "<!>\"a\"]{}", 2, 10, 0);
        Desk.read("require[" + "\"copy\",".repeat(10) + "<!>\"x\"];", 0, 10, 8);
        Desk.read("require\"reject\";reject text:\na\n.\n;", 1, 2, 2);
        Desk.read("redirect <!>text:\na\n.\n;", 1, 1, 0);
        Desk.read("redirect <!>text:\na\n.", 1, 0, 0);
    }

    private static void oneAfterTheOther() {
        SieveDesk desk = new SieveDesk();
        Desk.put(desk, "require\"copy\";\nredirect:copy\"x\";");
        Desk.due("check()", desk.check(), 2);
        Desk.due("place()", desk.place(), 28);
        Desk.put(desk, "keep;");
        Desk.due("place() is still the last check's", desk.place(), 28);
        Desk.due("count(0) is of what is put", desk.count(0), 5);
        Desk.due("count(1) is still the last check's", desk.count(1), 1);
        Desk.due("count(2)", desk.count(2), 2);
        Desk.due("count(3)", desk.count(3), 8);
        Desk.due("a refused put", desk.put(0, 0), false);
        Desk.due("place() behind it", desk.place(), 28);
        Desk.due("check()", desk.check(), 0);
        Desk.due("place()", desk.place(), -1);
        Desk.due("count(1)", desk.count(1), 1);
        Desk.due("count(2)", desk.count(2), 0);
        Desk.due("count(3)", desk.count(3), 0);
        // What an earlier script required, or left open, is no part of the next one.
        Desk.put(desk, "require\"copy\";if true{if not(");
        Desk.due("check()", desk.check(), 1);
        Desk.put(desk, "redirect:copy\"a@b\";");
        Desk.due("check()", desk.check(), 1);
        Desk.due("place()", desk.place(), 8);
        Desk.put(desk, "}");
        Desk.due("check()", desk.check(), 1);
        Desk.due("place()", desk.place(), 0);
        staleBytes(desk);
        Desk.due("check() of no script", desk.check(), 0);
        Desk.due("place()", desk.place(), -1);
        Desk.due("count(1)", desk.count(1), 0);
    }

    /** What an earlier, longer script left behind the end must not be read. */
    private static void staleBytes(SieveDesk desk) {
        String[] parts = {"keep", ";", "require\"reject\";reject text:\n.", "\n;", "require\"reject\";reject text:\n.\r",
            "\n;", "/*", "*/", "/* *", "/", "redirect\"a@b", "\";", "redirect\"a@b\\", "x\";", "if true{", "}",
            "if true{\n", "\n}", "if size:over 1", "{}", "if size:over", " 1{}"};
        for (int i = 0; i < parts.length; i += 2) {
            Desk.put(desk, parts[i] + parts[i + 1]);
            Desk.due(parts[i] + parts[i + 1] + ": check()", desk.check(), 0);
            Desk.put(desk, parts[i]);
            Desk.due(parts[i] + ": is at fault", desk.check() > 0, true);
        }
        Desk.put(desk, "\n".repeat(400));
        Desk.due("check()", desk.check(), 0);
        Desk.put(desk, "keep");
        Desk.due("check()", desk.check(), 1);
        Desk.due("place()", desk.place(), 4);
        Desk.put(desk, "keep;kk");
        Desk.due("check()", desk.check(), 1);
        Desk.put(desk, "if size:over 1k{}");
        Desk.due("check()", desk.check(), 0);
        Desk.put(desk, "if size:over 1");
        Desk.due("check()", desk.check(), 1);
        Desk.due("place()", desk.place(), 14);
    }

    private static void lines() {
        SieveDesk desk = new SieveDesk();
        Desk.put(desk, "\n".repeat(399) + "}");
        Desk.due("check()", desk.check(), 400);
        Desk.due("place()", desk.place(), 399);
        Desk.put(desk, "if true{" + "\n".repeat(392));
        Desk.due("check()", desk.check(), 393);
        Desk.due("place()", desk.place(), 400);
        Desk.put(desk, "foo" + "\n".repeat(300));
        Desk.due("check()", desk.check(), 1);
        Desk.put(desk, "\r\r\n\r}");
        Desk.due("check()", desk.check(), 2);
        Desk.due("place()", desk.place(), 4);
        Desk.put(desk, "if exists[\"\n\n\",\n\"\\\n\"/*\n*/#\n<");
        Desk.due("check()", desk.check(), 7);
    }

    private static void manyCalls() {
        SieveDesk desk = new SieveDesk();
        for (int turn = 0; turn < 128; turn++) {
            Desk.due("put", desk.put(0x6b6565703bL, 5), true);
            Desk.due("count(0)", desk.count(0), 5);
            Desk.due("check()", desk.check(), 0);
            Desk.due("count(1)", desk.count(1), 1);
        }
    }
}
