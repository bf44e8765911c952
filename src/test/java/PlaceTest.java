/** Promise 4, place, and the line that check answers with it. */
public final class PlaceTest {
    /** Scripts that go wrong at the mark, whatever follows. */
    private static final String[] FAULTS = {"<!>foo;", "keep <!>stop;", "if <!>keep{}", "redirect<!>\"a\";", "require<!>\"x\";",
        "<!>fileinto\"a\";", "if header<!>:all\"a\"\"b\"{}", "if header:is<!>:is\"a\"\"b\"{}", "if size:over <!>2G{}",
        "if header:comparator<!>\"x\"\"a\"\"b\"{}", "if header<!>:count\"gt\"\"a\"\"b\"{}", "keep<!>@;", "if exists[<!>]{}",
        "if allof(<!>){}", "keep<!>\u0000;", "stop<!>}", "if true{}else{}<!>else{}", "if not not not not not not not not <!>true{}",
        "redirect<!>\"" + "a".repeat(150) + "@b\";"};
    /** Faults that take in all that is behind them. */
    private static final String[] ENDLESS = {"keep;<!>/* ", "redirect<!>\" ", "keep <!>text: ", "keep <!>text:\n "};

    public static void main(String[] args) {
        firstByteOfToken();
        scriptsLength();
        withoutOne();
        staysUntilTheNextCheck();
        lines();
        firstFromTheLeft();
        Desk.end();
    }

    private static void firstByteOfToken() {
        Desk.sentence("the first byte of its token");
        String[] tokens = {"foo", "_", ":is", ":foo", "1", "12K", "2147483648", "1x", "\"a\"", "\"a b;\\\"\"", "text:\na\n.\n",
            "text:a", "text:", ";", ",", "(", ")", "[", "]", "{", "}", "@", "\u0000", "\u00ff", ":", ":1", "\"", "\"\\\"", "/", "/*",
            "/* *", "*", ".", "-1", "if1", "2G", "\"" + "a".repeat(201) + "\""};
        String[] gaps = {"", " ", "\n", "\r\n\t ", "/* */", "#x\n", " # }\n /* } */ "};
        for (String token : tokens) {
            for (String gap : gaps) {
                Desk.read(gap + "<!>" + token);
                Desk.read(gap + "stop;" + gap + "<!>" + token);
                Desk.read("stop;\n" + gap + "<!>" + token + " keep;");
            }
        }
    }

    private static void scriptsLength() {
        Desk.sentence("or the script's length");
        String[] starts = {"keep", "if", "if true", "if true{", "if true{}else", "if true{}elsif", "if true{}else{", "if not",
            "if allof", "if allof(", "if allof(true", "if allof(true,", "if header", "if header:is", "if header\"a\"",
            "if header\"a\"\"b\"", "if size", "if size:over", "if size:over 1", "require", "require[", "require[\"copy\"",
            "require[\"copy\",", "require[\"copy\"]", "redirect", "redirect\"a@b\"", "if exists[\"a\",", "if true{keep;"};
        for (String start : starts) {
            for (String gap : new String[] {"", " ", "\n", "\r", "\t\n\n", "#", "#\n", "#keep;", "/**/", "/*\n;*/\r\n#{}"}) {
                Desk.read(start + gap + "<!>");
            }
            Desk.read(start + "\n".repeat(400 - start.length()) + "<!>");
        }
    }

    private static void withoutOne() {
        Desk.sentence("-1 without one");
        SieveDesk desk = new SieveDesk();
        Desk.due("new: place()", desk.place(), -1);
        Desk.put(desk, "}");
        Desk.due("put, but not checked: place()", desk.place(), -1);
        Desk.due("check()", desk.check(), 1);
        Desk.due("at the first byte: place()", desk.place(), 0);
        Desk.due("check() of no script", desk.check(), 0);
        Desk.due("place()", desk.place(), -1);
        Desk.put(desk, "keep;}");
        Desk.due("check()", desk.check(), 1);
        Desk.put(desk, "keep;");
        Desk.due("check()", desk.check(), 0);
        Desk.due("place()", desk.place(), -1);
    }

    private static void staysUntilTheNextCheck() {
        Desk.sentence("The place of the last check's fault");
        SieveDesk desk = new SieveDesk();
        Desk.put(desk, "stop;\n  }");
        Desk.due("check()", desk.check(), 2);
        for (int turn = 0; turn < 3; turn++) {
            Desk.due("place()", desk.place(), 8);
            Desk.due("put(;, 1)", desk.put(';', 1), true);
            Desk.due("put(;, 0)", desk.put(';', 0), false);
            Desk.due("count(0)", desk.count(0), turn + 1);
            Desk.due("count(4)", desk.count(4), -1);
        }
        Desk.due("place()", desk.place(), 8);
        Desk.due("check()", desk.check(), 1);
        Desk.due("place()", desk.place(), 0);
    }

    private static void lines() {
        Desk.sentence("its LINE (1 and how many 10 stand before it)");
        Desk.readEach("<!>}", "<!>}\n", "\n<!>}", "\n<!>}\n", "\r<!>}", "\r\r\n<!>}", "\n\r<!>}", "keep\n<!>", "keep\n\n<!>",
            "if exists\"\n\n\"\n<!>\"\n\"{}", "if exists\"\\\n\"<!>;", "/*\n\n*/<!>}", "#\n#\n<!>}", "redirect <!>text:\n\n.\n;",
            "if exists text:\r\n\r\n.\r\n<!>;", "redirect<!>\"\n\n", "<!>/*\n\n", "<!>\u000b\n");
        for (int tens = 0; tens < 390; tens += 43) {
            Desk.read("\n".repeat(tens) + "<!>}" + "\n".repeat(399 - tens));
            Desk.read("/*" + "\n".repeat(tens) + "*/keep" + "\n".repeat(350 - Math.min(tens, 350)) + "<!>");
        }
        Desk.read("\n".repeat(399) + "<!>}");
        Desk.read("keep" + "\n".repeat(396) + "<!>");
        Desk.read("\n".repeat(400));
    }

    private static void firstFromTheLeft() {
        Desk.sentence("FAULTS, the first one from the left");
        for (String first : FAULTS) {
            for (String behind : FAULTS) {
                Desk.read(first + " " + behind.replace("<!>", ""));
                Desk.read("require\"vacation\";\n" + first + "\n" + behind.replace("<!>", ""));
            }
            for (String behind : ENDLESS) {
                Desk.read(first + " " + behind.replace("<!>", ""));
                Desk.read(behind + first.replace("<!>", "").replace("\"", ""));
            }
        }
    }
}
