/** Promise 3 and 4 over what must be required, what strings must say, and the limits. */
public final class FaultTest {
    public static void main(String[] args) {
        needs();
        needNothing();
        names();
        namesElsewhere();
        orders();
        comparators();
        mailboxes();
        addresses();
        testsInOneAnother();
        blocksInOneAnother();
        commandsAndTests();
        stringsInAll();
        firstFromTheLeft();
        Desk.end();
    }

    /** Right with just this required, a fault with all the others. */
    private static void need(String name, String before, String needing) {
        Desk.read("require\"" + name + "\";" + before + needing);
        Desk.read("require\"" + name.toUpperCase() + "\";" + before + needing);
        Desk.read(before + "<!>" + needing);
        String[] names = {"fileinto", "reject", "envelope", "copy", "imap4flags", "relational", "vacation",
            "comparator-i;ascii-numeric"};
        StringBuilder others = new StringBuilder("require[");
        for (String other : names) {
            if (!other.equals(name)) {
                others.append(others.length() > 8 ? "," : "").append('"').append(other).append('"');
            }
        }
        Desk.read(others + "];" + before + "<!>" + needing);
    }

    private static void needs() {
        need("fileinto", "keep;", "fileinto\"a\";");
        need("reject", "keep;", "reject\"a\";");
        need("envelope", "if ", "envelope\"a\"\"b\"{}");
        need("copy", "redirect", ":copy\"a@b\";");
        need("imap4flags", "keep", ":flags\"a\";");
        need("imap4flags", "", "setflag\"a\";");
        need("imap4flags", "", "addflag\"a\";");
        need("imap4flags", "", "removeflag\"a\";");
        need("imap4flags", "if ", "hasflag\"a\"{}");
        need("relational", "if header", ":count\"gt\"\"a\"\"b\"{}");
        need("relational", "if address:all", ":value\"gt\"\"a\"\"b\"{}");
        need("vacation", "", "vacation\"a\";");
        need("comparator-i;ascii-numeric", "if header:comparator", "\"i;ascii-numeric\"\"a\"\"b\"{}");
        Desk.readEach(
            "require\"fileinto\";fileinto<!>:copy\"a\";", "require\"fileinto\";fileinto<!>:flags\"a\"\"b\";",
            "require\"copy\";<!>fileinto:copy\"a\";", "if true{<!>fileinto\"a\";}", "if not <!>envelope\"a\"\"b\"{}",
            "if header\"i;ascii-numeric\"\"fileinto\"{}", "if exists\"i;ascii-numeric\"{}");
    }

    /** What is not told to need something is right with nothing required. */
    private static void needNothing() {
        Desk.sentence("a word, tag or string that needs one of these, which was not required");
        for (String tag : new String[] {"", ":is", ":contains", ":matches", ":comparator\"i;octet\"",
            ":comparator\"i;ascii-casemap\"", ":all", ":localpart", ":domain"}) {
            Desk.read("if address" + tag + "\"a\"\"b\"{}", 2, tag.contains("\"") ? 3 : 2, 0);
        }
        Desk.read("if header:is:comparator\"i;octet\"\"a\"\"b\"{}", 2, 3, 0);
        Desk.read("if allof(exists\"a\",size:over 1,size:under 1,anyof(not true,false)){}elsif true{}else{}", 10, 1, 0);
        Desk.read("stop;discard;keep;redirect\"a@b\";", 4, 1, 0);
        // The tags of vacation need no more than vacation itself.
        Desk.read("require\"vacation\";vacation:days 1:subject\"a\":addresses\"b\":handle\"c\"\"d\";", 1, 5, 64);
        Desk.read("require\"imap4flags\";if hasflag:is\"a\"{keep:flags\"a\";setflag\"a\";addflag\"a\";removeflag\"a\";}", 6, 6, 16);
        Desk.read("require\"fileinto\";require\"copy\";fileinto:copy\"a\";", 1, 3, 9);
        Desk.read("require\"fileinto\";require\"imap4flags\";fileinto:flags\"a\"\"a\";", 1, 4, 17);
    }

    /** A string that is asked for in one place says nothing in the others. */
    private static void namesElsewhere() {
        String[] required = {"fileinto", "reject", "envelope", "copy", "imap4flags", "relational", "vacation",
            "comparator-i;ascii-numeric"};
        String[] orders = {"gt", "ge", "lt", "le", "eq", "ne"};
        String[] comparators = {"i;octet", "i;ascii-casemap", "i;ascii-numeric"};
        String[] others = {"a", "a@b", ":is", "keep", "is"};
        String header = Desk.ALL + "if header";
        Desk.sentence("one in require that is none of fileinto reject envelope copy imap4flags relational vacation ..");
        elsewhere("require", ";", orders, comparators, others);
        elsewhere("require[\"copy\",", "];", orders, comparators, others);
        Desk.sentence("a string behind :count or :value that is none of gt ge lt le eq ne");
        elsewhere(header + ":count", "\"\"\"\"{}", required, comparators, others);
        elsewhere(header + ":value", "\"\"\"\"{}", required, comparators, others);
        Desk.sentence("behind :comparator none of i;octet i;ascii-casemap i;ascii-numeric");
        elsewhere(header + ":comparator", "\"\"\"\"{}", required, orders, others);
        Desk.sentence("behind redirect no ADDRESS");
        elsewhere("redirect", ";", required, orders, comparators);
    }

    private static void elsewhere(String head, String tail, String[]... kinds) {
        for (String[] names : kinds) {
            for (String name : names) {
                Desk.read(head + "<!>\"" + name + "\"" + tail);
            }
        }
    }

    /** Each string that is asked for, and those that are it but for a byte. */
    private static void names() {
        String numeric = "require\"comparator-i;ascii-numeric\";";
        String relational = "require\"relational\";";
        Desk.sentence("one in require that is none of fileinto reject envelope copy imap4flags relational vacation ..");
        for (String name : new String[] {"fileinto", "reject", "envelope", "copy", "imap4flags", "relational", "vacation",
            "comparator-i;ascii-numeric"}) {
            name("require", name, ";");
            name("require[\"copy\",", name, "];");
            name("require\"copy\";require[", name, ",\"copy\"];");
        }
        Desk.sentence("a string behind :count or :value that is none of gt ge lt le eq ne");
        for (String name : new String[] {"gt", "ge", "lt", "le", "eq", "ne"}) {
            name(relational + "if header:count", name, "\"a\"\"b\"{}");
            name(relational + "if address:all:value", name, ":comparator\"i;octet\"\"a\"\"b\"{}");
        }
        Desk.sentence("behind :comparator none of i;octet i;ascii-casemap i;ascii-numeric");
        for (String name : new String[] {"i;octet", "i;ascii-casemap", "i;ascii-numeric"}) {
            name(numeric + "if header:comparator", name, "\"a\"\"b\"{}");
            name(numeric + "if address:domain:comparator", name, ":is\"a\"\"b\"{}");
        }
    }

    private static void name(String head, String name, String tail) {
        Desk.edge(head + "\"" + name + "\"" + tail, head + "<!>\"" + name.substring(1) + "\"" + tail);
        Desk.edge(head + "\"" + name.toUpperCase() + "\"" + tail, head + "<!>\"" + name + name + "\"" + tail);
        String first = name.substring(0, 1);
        Desk.edge(head + "\"" + first.toUpperCase() + name.substring(1) + "\"" + tail, head + "<!>\"" + first + "\"" + tail);
        Desk.readEach(head + "<!>\"" + name.substring(0, name.length() - 1) + "\"" + tail, head + "<!>\"" + name + " \"" + tail,
            head + "<!>\" " + name + "\"" + tail, head + "<!>\"" + name + "\u0000\"" + tail, head + "<!>\"\"" + tail,
            head + " <!>text:\n" + name + "\n.\n" + tail);
    }

    private static void orders() {
        for (String tag : new String[] {":count", ":value"}) {
            String head = "require\"relational\";if header" + tag;
            for (String order : new String[] {"gt", "ge", "lt", "le", "eq", "ne", "GT", "gE", "Ne"}) {
                Desk.read(head + "\"" + order + "\"\"a\"\"b\"{}");
            }
            for (String order : new String[] {"", "g", "gtt", "tg", "=", "gt ", "is", "i;octet", "fileinto", "nE\u0000"}) {
                Desk.read(head + "<!>\"" + order + "\"\"a\"\"b\"{}");
            }
        }
    }

    private static void comparators() {
        for (String right : new String[] {"i;octet", "i;ascii-casemap", "I;Octet", "i;ASCII-casemap"}) {
            Desk.read("if header:comparator\"" + right + "\"\"a\"\"b\"{}");
            Desk.read("require\"comparator-i;ascii-numeric\";if address:comparator\"" + right + "\"\"a\"\"b\"{}");
        }
        Desk.read("require\"comparator-i;ascii-numeric\";if header:comparator\"I;ASCII-NUMERIC\"\"a\"\"b\"{}");
        for (String wrong : new String[] {"", "octet", "i;octets", "i;ascii", "comparator-i;ascii-numeric", "gt", "i:octet"}) {
            Desk.read("require\"comparator-i;ascii-numeric\";if header:comparator<!>\"" + wrong + "\"\"a\"\"b\"{}");
        }
    }

    private static void mailboxes() {
        String head = "require\"fileinto\";fileinto";
        for (String right : new String[] {"a", " ", "~", "!#", "a".repeat(20), "INBOX.x/y", "fileinto"}) {
            Desk.read(head + "\"" + right + "\";");
        }
        String[] wrong = {"", "a".repeat(21), "a\u001f", "\u007f", "\u0080", "\u00ff", "a\n", "\t", "\u0000", "a\\\"b"};
        for (String one : wrong) {
            Desk.read(head + "<!>\"" + one + "\";");
        }
        Desk.readEach(
            head + "\"" + "\\a".repeat(20) + "\";", "require[\"fileinto\",\"imap4flags\"];fileinto:flags[\"\",\"\t\"]\"a\";");
    }

    private static void addresses() {
        String[] right = {"a@b", "A.Z@0.9", "!#$%&'*+-/=?^_`{|}~@-", "a.b.c@d.e.f", "0@-a-", "a".repeat(40) + "@b",
            "a@" + "b".repeat(60), "a." + "a".repeat(38) + "@b." + "c".repeat(58), "zZ9@zZ9"};
        for (String address : right) {
            Desk.read("redirect\"" + address + "\";");
        }
        String[] wrong = {"", "a", "@", "a@", "@b", "a@b@c", "a@@b", ".a@b", "a.@b", "a..b@c", ".@b", "a@.b", "a@b.",
            "a@b..c", "a@.", "a b@c", "a@b c", "a@b_c", "a@b!", "a,b@c", "a(b@c", "a:b@c", "a;b@c", "a<b@c", "a>b@c",
            "a[b@c", "a]b@c", "\\\"a@c", "a\\\\b@c", "a\u0080@b", "a@\u00e9", "a@b\n", " a@b", "a@b ", "<a@b>",
            "a".repeat(41) + "@b", "a@" + "b".repeat(61), "a@b\u0000", "a\u007f@b", "a@b/c", "\u00c1@b", "a@[b", "a@b`"};
        for (String address : wrong) {
            Desk.read("redirect<!>\"" + address + "\";");
        }
    }

    private static void testsInOneAnother() {
        Desk.readEach(
            "if " + "not ".repeat(7) + "true{}", "if " + "not ".repeat(8) + "<!>true{}", "if " + "not ".repeat(8) + "<!>not true{}",
            "if " + "not ".repeat(8) + "<!>;", "if " + "not ".repeat(8) + "<!>",
            "if " + "allof(".repeat(7) + "true" + ")".repeat(7) + "{}", "if " + "anyof(".repeat(8) + "<!>true",
            "if " + "anyof(".repeat(7) + "true,<!>", "if " + "allof(".repeat(7) + "true,true,not <!>true",
            "if " + "not ".repeat(7) + "anyof <!>true", "if " + "not ".repeat(7) + "true{" + "if " + "not ".repeat(7) + "true{}}",
            "if " + "not ".repeat(7) + "true{}elsif " + "not ".repeat(7) + "true{}elsif " + "not ".repeat(8) + "<!>true{}",
            "if allof(" + "not ".repeat(6) + "true," + "not ".repeat(6) + "true," + "not ".repeat(7) + "<!>true){}");
    }

    /** Inside the eighth block no script goes on with an if, as its own block would be a ninth. */
    private static void blocksInOneAnother() {
        String eight = "if true{".repeat(8);
        Desk.readEach(
            eight + "}".repeat(8), eight + "keep;" + "}".repeat(8), eight + "<!>if true{" + "}".repeat(9), eight + "<!>if", eight + "keep;<!>if",
            eight + "}else{}<!>elsif", eight + "}else{<!>if true{}}", eight + "}elsif true{<!>if",
            eight + "}}if true{}else{keep;}" + "}".repeat(6), eight + "}if true{}" + "}".repeat(7), eight + "<!>",
            eight + "}}".repeat(4) + eight + "}}".repeat(4), eight + "}".repeat(8) + "<!>}");
    }

    private static void commandsAndTests() {
        Desk.read("keep;".repeat(40), 40, 0, 0);
        Desk.read("keep;".repeat(40) + "<!>keep;", 40, 0, 0);
        Desk.read("keep;".repeat(40) + "<!>if true{}", 40, 0, 0);
        Desk.read("keep;".repeat(40) + "<!>foo", 40, 0, 0);
        Desk.read("keep;".repeat(39) + "if <!>true{}", 40, 0, 0);
        Desk.read("keep;".repeat(38) + "if true{<!>keep;}", 40, 0, 0);
        Desk.read("keep;".repeat(38) + "if true{}else{}", 40, 0, 0);
        Desk.read("keep;".repeat(38) + "if true{}elsif <!>true{}", 40, 0, 0);
        Desk.read("keep;".repeat(37) + "if true{}elsif true{}", 40, 0, 0);
        Desk.read("keep;".repeat(37) + "if not true{}else{<!>stop;}", 40, 0, 0);
        Desk.read("keep;".repeat(37) + "if not not <!>true{}", 40, 0, 0);
        Desk.read("if anyof(" + "true,".repeat(37) + "true){}", 40, 0, 0);
        Desk.read("if anyof(" + "true,".repeat(38) + "<!>true){}", 40, 0, 0);
        Desk.read("require\"copy\";".repeat(9) + "keep;".repeat(40), 40, 9, 8);
    }

    private static void stringsInAll() {
        String ten = "[" + "\"\",".repeat(9) + "\"\"]";
        String fifty = "if anyof(header" + ten + ten + ",header" + ten + ten + ",exists" + ten;
        Desk.read(fifty + ",exists" + ten + "){}", 6, 60, 0);
        Desk.read(fifty + ",exists" + ten + "){redirect<!>\"a@b\";}", 7, 60, 0);
        Desk.read(fifty + ",exists" + ten + "){redirect<!>;}", 7, 60, 0);
        Desk.read(fifty + ",header" + ten + "[<!>\"\"]", 6, 60, 0);
        Desk.read(fifty + ",header\"\"[" + "\"\",".repeat(9) + "<!>\"\"]", 6, 60, 0);
        Desk.read("require\"copy\";" + fifty + ",exists" + ten.replace(",\"\"]", ",<!>\"\"]"), 6, 60, 8);
        Desk.read("require\"copy\";" + fifty + ",exists[" + "\"\",".repeat(8) + "\"\"]){}", 6, 60, 8);
    }

    private static void firstFromTheLeft() {
        Desk.readEach(
            "<!>foo /* x", "<!>foo \"", "keep <!>foo 3G", "if size :over <!>3G @", "require<!>\"x\"\"", "redirect<!>\"a\" @",
            "<!>fileinto \"", "if header<!>:all:all @", "keep;<!>fileinto\"\";foo", "if header:is<!>:is\"a", "<!>keeps\u0000",
            "keep <!>\u0000;", "if true{\n\n<!>@\n}", "keep;\n# x\n/*\n*/ <!>\"\n\"");
    }
}
