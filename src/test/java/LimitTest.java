/**
 * Promises 3, 4 and 5 on either side of each limit that the document names: the last script that is
 * still right, and the first that is not.
 */
public final class LimitTest {
    private static final String ALL = Desk.ALL;
    private static final String REJECT = "require\"reject\";reject ";
    /** Each kind of command but if; all need no more than ALL. */
    private static final String[] COMMANDS = {"stop;", "discard;", "keep;", "fileinto\"a\";", "redirect\"a@b\";",
        "reject\"a\";", "setflag\"a\";", "addflag\"a\";", "removeflag\"a\";", "vacation\"a\";"};
    /** Each kind of test that has no other in it. */
    private static final String[] TESTS = {"header\"a\"\"b\"", "address\"a\"\"b\"", "envelope\"a\"\"b\"", "hasflag\"a\"",
        "exists\"a\"", "size:over 1", "true", "false"};
    /** Each place where strings stand, the place itself as a %. */
    private static final String[] LISTS = {"keep:flags%;", "fileinto:flags%\"a\";", "setflag%;", "addflag%;", "removeflag%;",
        "vacation:addresses%\"a\";", "if header%\"b\"{}", "if header\"a\"%{}", "if address%\"b\"{}", "if address\"a\"%{}",
        "if envelope%\"b\"{}", "if envelope\"a\"%{}", "if hasflag%{}", "if exists%{}"};
    /** Each place where a string stands that may say anything. */
    private static final String[] STRINGS = {"reject%;", "vacation%;", "vacation:subject%\"a\";", "vacation:handle%\"a\";"};

    public static void main(String[] args) {
        emptyAndFull();
        numbers();
        numbersThatWrap();
        quotedBytes();
        textBytes();
        withoutEnd();
        atMostTen();
        blocks();
        testsInOneAnother();
        fortyThings();
        sixtyStrings();
        mailboxes();
        addresses();
        Desk.end();
    }

    private static void emptyAndFull() {
        Desk.sentence("A SCRIPT are up to 400 bytes");
        Desk.read("", 0, 0, 0);
        Desk.edge(" ".repeat(395) + "keep;", " ".repeat(396) + "keep<!>");
        Desk.edge("/*" + "x".repeat(396) + "*/", "<!>/*" + "x".repeat(397) + "*");
        Desk.edge("#".repeat(400), "\n".repeat(399) + "<!>}");
        Desk.edge("keep;#" + "x".repeat(393) + "\n", "keep #" + "x".repeat(393) + "\n<!>");
        Desk.edge("\r\n".repeat(197) + "stop ;", "\r\n".repeat(198) + "stop<!>");
        Desk.readEach("<!>" + "k".repeat(400), "<!>:" + "k".repeat(399), "<!>" + "1".repeat(400), "<!>" + ";".repeat(400),
            "<!>" + "\"".repeat(400), "if exists<!>:" + "_".repeat(390), "if true" + "{<!>" + "{".repeat(392),
            "if " + "not ".repeat(8) + "<!>" + "not ".repeat(91), "keep " + "<!>" + "[".repeat(395));
    }

    private static void number(String right, String wrong) {
        Desk.edge("if size:over " + right + "{}", "if size:over <!>" + wrong + "{}");
        Desk.edge("if not size:UNDER\n" + right + "{}", "if not size:UNDER\n<!>" + wrong + "{}");
        Desk.edge(ALL + "vacation:days " + right + "\"a\";", ALL + "vacation:days <!>" + wrong + "\"a\";");
    }

    private static void numbers() {
        Desk.sentence("digits and perhaps K, M or G (small ones, too; times 2 ^ 10, 20, 30), up to 2147483647");
        number("0", "0x");
        number("2147483647", "2147483648");
        number("02147483647", "02147483648");
        number("2097151K", "2097152K");
        number("2097151k", "2097152k");
        number("2047M", "2048M");
        number("2047m", "2048m");
        number("1G", "2G");
        number("1g", "2g");
        number("0G", "0GG");
        number("0".repeat(200) + "2147483647", "0".repeat(200) + "2147483648");
        number("0".repeat(200) + "1G", "0".repeat(200) + "2G");
        number("0".repeat(200), "1" + "0".repeat(200));
    }

    /** Numbers that would be small again if they were cut to 32 or 64 bits. */
    private static void numbersThatWrap() {
        String[] wrong = {"4294967296", "4294967297", "4294967295", "6442450944", "9223372036854775807", "9223372036854775808",
            "18446744073709551615", "18446744073709551616", "18446744073709551617", "36893488147419103233",
            "4194304K", "4194305K", "18014398509481984K", "18014398509481985K", "4096M", "4097M", "17592186044416M",
            "17592186044417M", "3G", "4G", "5G", "8589934592G", "17179869184G", "17179869185G", "18446744073709551617G",
            "9".repeat(250), "9".repeat(250) + "K", "1" + "0".repeat(250) + "G"};
        for (String number : wrong) {
            number("1", number);
        }
    }

    private static void quotedBytes() {
        Desk.sentence("at most 200 bytes");
        for (String place : STRINGS) {
            Desk.edge(in(place, "\"" + "a".repeat(200) + "\""), in(place, "<!>\"" + "a".repeat(201) + "\""));
        }
        for (String place : LISTS) {
            Desk.edge(in(place, "\"" + "a".repeat(200) + "\""), in(place, "<!>\"" + "a".repeat(201) + "\""));
            Desk.edge(in(place, "[\"\",\"" + "a".repeat(200) + "\"]"), in(place, "[\"\",<!>\"" + "a".repeat(201) + "\"]"));
        }
        // A \ and the byte behind it are one byte of the string.
        Desk.edge(REJECT + "\"" + "a".repeat(199) + "\\\"\";", REJECT + "<!>\"" + "a".repeat(200) + "\\\"\";");
        Desk.edge(REJECT + "\"" + "\\\\".repeat(150) + "a".repeat(50) + "\";",
            REJECT + "<!>\"" + "\\\\".repeat(150) + "a".repeat(51) + "\";");
        Desk.edge(REJECT + "\"" + "\n".repeat(200) + "\";", REJECT + "<!>\"" + "\n".repeat(201) + "\";");
        Desk.edge(REJECT + "\"\";", REJECT + "<!>\"");
        // Strings that are too long stand in nobody's way behind an earlier fault, or in a comment.
        Desk.readEach("<!>foo \"" + "a".repeat(201) + "\";", "/*\"" + "a".repeat(201) + "*/keep;", "#\"" + "a".repeat(300));
    }

    /** A script holds no 1000 bytes, so the longest text that goes in is right. */
    private static void textBytes() {
        Desk.sentence("at most 1000 bytes");
        int room = 400 - (REJECT + "text:\n\n.\n;").length();
        Desk.edge(REJECT + "text:\n" + "a".repeat(room) + "\n.\n;", REJECT + "<!>text:\n" + "a".repeat(room) + "\n..;");
        Desk.read(REJECT + "text:\n" + "\n".repeat(room) + "\n.\n;", 1, 2, 2);
        Desk.read(REJECT + "text:\n" + "..\n".repeat(room / 3) + "\n.\n;", 1, 2, 2);
        Desk.edge(REJECT + "text:\n.\n;", REJECT + "<!>text:\n;");
    }

    private static void withoutEnd() {
        Desk.sentence("A comment from / and * without its end: a fault at the /");
        Desk.edge("keep;/**/", "keep;<!>/**");
        Desk.edge("keep/**/;", "keep<!>/*/;");
        Desk.edge("/*\n**/stop;", "<!>/*\n** /stop;");
        Desk.edge("/*/*/stop;", "<!>/*/* /stop;");
        Desk.edge("stop;/**//* */", "stop;/**/<!>/* *");
        Desk.edge("if true{}/*{*/", "if true{}<!>/*{");
        Desk.sentence("comments from # up to 10 (or the end)");
        Desk.edge("keep;#", "keep;<!>@");
        Desk.edge("keep;#;", "keep;#\n<!>;");
        Desk.edge("#\r;", "#\r\n<!>;");
        Desk.sentence("text: without its end, or with something else behind blanks: at the t");
        Desk.edge(REJECT + "text:\n.\n;", REJECT + "<!>text:\n.");
        Desk.edge(REJECT + "text:\r\n.\r\n;", REJECT + "<!>text:\r\n.\r");
        Desk.edge(REJECT + "text:\na\n.\n;", REJECT + "<!>text:\na.\n;");
        Desk.edge(REJECT + "text: \t\n.\n;", REJECT + "<!>text: \t;\n.\n;");
        Desk.edge(REJECT + "text:\n.\n;", REJECT + "<!>text:");
        Desk.edge(REJECT + "text:\n.\n;", REJECT + "<!>text: ");
    }

    private static String in(String place, String what) {
        return ALL + place.replace("%", what);
    }

    private static void atMostTen() {
        Desk.sentence("strings: string | '[' string (',' string)* ']', at most 10");
        for (String place : LISTS) {
            Desk.edge(in(place, "\"\""), in(place, "\"\"<!>,\"\""));
            Desk.edge(in(place, Desk.list(1, "")), in(place, "[<!>]"));
            Desk.edge(in(place, Desk.list(9, "x")), in(place, "[" + "\"x\",".repeat(9) + "<!>]"));
            Desk.edge(in(place, Desk.list(10, "x")), in(place, "[" + "\"x\",".repeat(10) + "<!>\"x\"]"));
            Desk.read(in(place, "[" + "\"x\",".repeat(10) + "<!>]"));
            Desk.read(in(place, "[" + "\"x\",".repeat(10) + "<!>\"x\",\"x\"]"));
        }
        Desk.edge("require" + Desk.list(1, "copy") + ";", "require[<!>];");
        Desk.edge("require" + Desk.list(10, "copy") + ";", "require[" + "\"copy\",".repeat(10) + "<!>\"copy\"];");
        // Ten are the limit of each list, not of the lists of a test or of what is required in all.
        Desk.read("if header" + Desk.list(10, "") + Desk.list(10, "") + "{}", 2, 20, 0);
        Desk.read(("require" + Desk.list(10, "copy") + ";").repeat(2) + "require\"copy\";keep;", 1, 21, 8);
    }

    private static void blocks() {
        Desk.sentence("block: '{' command* '}', 8 in one another");
        for (String open : new String[] {"if true{", "if true{}else{", "if true{}elsif true{", "if true{}elsif true{}else{"}) {
            String seven = open.repeat(7);
            String eight = open.repeat(8);
            Desk.edge(eight + "}".repeat(8), eight + "<!>if true{}" + "}".repeat(8));
            Desk.edge(seven + "if true{}" + "}".repeat(7), eight + "keep;<!>if true{}" + "}".repeat(8));
            Desk.edge(seven + "if true{}else{}" + "}".repeat(7), eight + "}".repeat(8) + "<!>}");
            Desk.edge(eight + "stop;" + "}".repeat(8), eight + "}".repeat(7) + "<!>");
            Desk.edge(eight + "}if false{}" + "}".repeat(7), eight + "<!>{}");
        }
        Desk.read("if true{}".repeat(20), 40, 0, 0);
        Desk.read("if true{" + "if true{}".repeat(9) + "}", 20, 0, 0);
        Desk.read("if true{}" + "elsif true{}".repeat(9) + "else{}", 11, 0, 0);
    }

    private static void testsInOneAnother() {
        Desk.sentence("tests 8 in one another");
        for (String test : TESTS) {
            Desk.edge(ALL + "if " + "not ".repeat(7) + test + "{}", ALL + "if " + "not ".repeat(8) + "<!>" + test + "{}");
            for (String word : new String[] {"allof(", "anyof("}) {
                Desk.edge(ALL + "if " + word.repeat(7) + test + ")".repeat(7) + "{}",
                    ALL + "if " + word.repeat(8) + "<!>" + test + ")".repeat(8) + "{}");
                // The second one in ( ) is as deep as the first.
                Desk.edge(ALL + "if " + word.repeat(7) + "true," + test + ")".repeat(7) + "{}",
                    ALL + "if " + word.repeat(7) + "true,not <!>" + test + ")".repeat(7) + "{}");
                Desk.edge(ALL + "if " + word + "not ".repeat(6) + "true," + "not ".repeat(6) + test + "){}",
                    ALL + "if " + word + "not ".repeat(6) + "true," + "not ".repeat(7) + "<!>" + test + "){}");
            }
            Desk.edge(ALL + "if " + "not allof(".repeat(3) + "not " + test + ")))" + "{}",
                ALL + "if " + "not allof(".repeat(4) + "<!>" + test + "))))" + "{}");
            Desk.edge(ALL + "if true{}elsif " + "not ".repeat(7) + test + "{}",
                ALL + "if true{}elsif " + "not ".repeat(8) + "<!>" + test + "{}");
        }
        Desk.readEach("if " + "not ".repeat(8) + "<!>allof(true){}", "if " + "not ".repeat(7) + "allof(<!>not true){}",
            "if " + "not ".repeat(7) + "true{if " + "not ".repeat(7) + "true{}}");
    }

    /** The word that is one too many is told, though it does not count. */
    private static void fortyThings() {
        Desk.sentence("more than 40 commands and tests");
        for (String command : COMMANDS) {
            int said = command.contains("\"") ? 1 : 0;
            Desk.read(ALL + "keep;".repeat(39) + command, 40, 8 + said, 255);
            Desk.read(ALL + "keep;".repeat(40) + "<!>" + command, 40, 8, 255);
            Desk.read(ALL + "keep;".repeat(37) + "if true{" + command + "}", 40, 8 + said, 255);
            Desk.read(ALL + "keep;".repeat(38) + "if true{<!>" + command + "}", 40, 8, 255);
        }
        for (String test : TESTS) {
            int said = test.split("\"", -1).length / 2;
            Desk.read(ALL + "keep;".repeat(38) + "if " + test + "{}", 40, 8 + said, 255);
            Desk.read(ALL + "keep;".repeat(39) + "if <!>" + test + "{}", 40, 8, 255);
            Desk.read(ALL + "keep;".repeat(37) + "if not " + test + "{}", 40, 8 + said, 255);
            Desk.read(ALL + "keep;".repeat(38) + "if not <!>" + test + "{}", 40, 8, 255);
            Desk.read(ALL + "keep;".repeat(36) + "if anyof(true," + test + "){}", 40, 8 + said, 255);
            Desk.read(ALL + "keep;".repeat(37) + "if allof(true,<!>" + test + "){}", 40, 8, 255);
            Desk.read(ALL + "keep;".repeat(37) + "if true{}elsif " + test + "{}else{}", 40, 8 + said, 255);
            Desk.read(ALL + "keep;".repeat(38) + "if true{}elsif <!>" + test + "{}", 40, 8, 255);
        }
        Desk.read("keep;".repeat(40) + "<!>if true{}", 40, 0, 0);
        Desk.read("keep;".repeat(39) + "if<!>", 40, 0, 0);
        Desk.read("keep;".repeat(39) + "keep<!>", 40, 0, 0);
        Desk.read("keep;".repeat(40) + "<!>else", 40, 0, 0);
    }

    /** A script of just so many strings, 8 or more, up to ten lists of them. */
    private static String filled(int strings) {
        StringBuilder script = new StringBuilder(ALL);
        int left = strings - 8;
        while (left > 0) {
            int many = Math.min(left, 10);
            script.append("setflag").append(Desk.list(many, "")).append(';');
            left -= many;
        }
        return script.toString();
    }

    private static void sixtyStrings() {
        Desk.sentence("more than 40 commands and tests, 60 strings");
        Desk.read(filled(60), 6, 60, 255);
        Desk.read(filled(60) + "keep;", 7, 60, 255);
        // The mark is before the last string of each; it is the 60th, and then the 61st.
        String[] each = {"reject<!>\"a\";", "fileinto<!>\"a\";", "redirect<!>\"a@b\";", "setflag<!>\"a\";", "addflag[<!>\"a\"];",
            "removeflag[\"a\",<!>\"b\"];", "vacation<!>\"a\";", "vacation:subject\"s\"<!>\"a\";", "vacation:handle\"s\"<!>\"a\";",
            "vacation:addresses[\"s\",\"t\"]<!>\"a\";", "keep:flags<!>\"a\";", "fileinto:flags\"a\"<!>\"b\";",
            "if exists<!>\"a\"{}", "if hasflag[\"a\",<!>\"b\"]{}", "if header\"a\"<!>\"b\"{}", "if address[\"a\"][<!>\"b\"]{}",
            "if hasflag:count\"gt\"<!>\"b\"{}", "if envelope:comparator\"i;octet\"\"a\"<!>\"b\"{}",
            "reject <!>text:\n.\n;"};
        for (String one : each) {
            String plain = one.replace("<!>", "");
            int strings = plain.contains("text:") ? 1 : plain.split("\"", -1).length / 2;
            Desk.edge(filled(60 - strings) + plain, filled(61 - strings) + one);
            Desk.due(one + ": count(2) at the 60th", Desk.read(filled(60 - strings) + plain).count(2), 60);
            Desk.due(one + ": count(2) at the 61st", Desk.read(filled(61 - strings) + one).count(2), 60);
        }
        // A string that is at fault by what it says, too, is one too many first.
        Desk.read(filled(60) + "redirect<!>\"a\";", 7, 60, 255);
        Desk.read(filled(59) + "redirect<!>\"a\";", 7, 60, 255);
        Desk.read(filled(60) + "if hasflag:count<!>\"x\"", 8, 60, 255);
        Desk.read(filled(60) + "reject<!>;", 7, 60, 255);
    }

    private static void mailboxes() {
        Desk.sentence("behind fileinto none or more than 20 bytes");
        String head = "require\"fileinto\";fileinto";
        Desk.edge(head + "\"a\";", head + "<!>\"\";");
        Desk.edge(head + "\"" + "a".repeat(20) + "\";", head + "<!>\"" + "a".repeat(21) + "\";");
        Desk.edge(head + "\"" + "\\\\".repeat(20) + "\";", head + "<!>\"" + "\\\\".repeat(21) + "\";");
        Desk.edge(head + "\"" + " ".repeat(20) + "\";", head + "<!>\"" + " ".repeat(21) + "\";");
        Desk.edge(head + "\"" + "a".repeat(19) + "~\";", head + "<!>\"" + "a".repeat(19) + "\u007f\";");
        Desk.edge(head + "\" " + "a".repeat(19) + "\";", head + "<!>\"\u001f" + "a".repeat(19) + "\";");
        Desk.edge(head + "\"" + "a".repeat(19) + "#\";", head + "<!>\"" + "a".repeat(19) + "\\\"\";");
        Desk.edge(head + "\"a\";", head + "<!>\"" + "a".repeat(200) + "\";");
        Desk.edge(head + "\"a\";", head + "<!>\"" + "a".repeat(201) + "\";");
    }

    private static void address(String right, String wrong) {
        Desk.edge("redirect\"" + right + "\";", "redirect<!>\"" + wrong + "\";");
        Desk.edge(ALL + "redirect:copy\"" + right + "\";", ALL + "redirect:copy<!>\"" + wrong + "\";");
    }

    private static void addresses() {
        Desk.sentence("local: 1 .. 40");
        address("a@b", "@b");
        address("a".repeat(40) + "@b", "a".repeat(41) + "@b");
        address("a." + "b".repeat(38) + "@b", "a." + "b".repeat(39) + "@b");
        address("\\a".repeat(40) + "@b", "\\a".repeat(41) + "@b");
        Desk.sentence("domain: 1 .. 60");
        address("a@b", "a@");
        address("a@" + "b".repeat(60), "a@" + "b".repeat(61));
        address("a@" + "b".repeat(58) + ".b", "a@" + "b".repeat(59) + ".b");
        address("a".repeat(40) + "@" + "b".repeat(60), "a".repeat(41) + "@" + "b".repeat(60));
        address("a".repeat(40) + "@" + "b".repeat(60), "a".repeat(40) + "@" + "b".repeat(61));
        address("a".repeat(40) + "@" + "b".repeat(60), "a".repeat(50) + "@" + "b".repeat(50));
        Desk.sentence("and . (not first, last, or two together)");
        address("a.b@c", ".b@c");
        address("a.b@c", "a.@c");
        address("a.b@c", "a..b@c");
        address("a.b.c@d", "a.b..c@d");
        address("a.b@c", ".@c");
        address("a.".repeat(19) + "ab@c", "a.".repeat(20) + "@c");
        address(("a.".repeat(20)).substring(0, 39) + "@c", "." + "a.".repeat(19) + "a@c");
        Desk.sentence("and . (likewise)");
        address("a@b.c", "a@.c");
        address("a@b.c", "a@b.");
        address("a@b.c", "a@b..c");
        address("a@b.c.d", "a@b.c..d");
        address("a@b.c", "a@.");
        address("a@" + "b.".repeat(29) + "bb", "a@" + "b.".repeat(30));
        Desk.sentence("local @ domain");
        address("a@b", "ab");
        address("a@b", "a@@b");
        address("a@b", "a@b@c");
        address("a@b", "@");
        address("a@b", "");
    }
}
