/** Promises 3 and 4 for each of the 256 bytes at the places where the document says which may stand. */
public final class ByteTest {
    private static final String BIG = "ABCDEFGHIJKLMNOPQRSTUVWXYZ";
    private static final String SMALL = "abcdefghijklmnopqrstuvwxyz";
    private static final String DIGITS = "0123456789";
    private static final String GAPS = "\t\n\r ";

    public static void main(String[] args) {
        for (char b = 0; b <= 255; b++) {
            aheadOfAll(b);
            behindWord(b);
            inTag(b);
            behindNumber(b);
            inQuoted(b);
            inText(b);
            inMailbox(b);
            inAddress(b);
            inName(b);
        }
        Desk.end();
    }

    private static boolean in(String bytes, char b) {
        return bytes.indexOf(b) >= 0;
    }

    private static boolean inWord(char b) {
        return in(BIG, b) || in(SMALL, b) || in(DIGITS, b) || b == '_';
    }

    private static void aheadOfAll(char b) {
        Desk.sentence("Between tokens: 9, 10, 13, 32");
        Desk.read((in(GAPS, b) || b == '#' ? "" : "<!>") + b);
        Desk.read((in(GAPS, b) || b == '#' ? "" : "<!>") + b + "keep;");
        // A / is the start of a comment here; nothing else goes with the * behind it.
        Desk.read((in(GAPS, b) ? b + "<!>" : (b == '#' || b == '/' ? "" : "<!>") + b) + "**/");
    }

    private static void behindWord(char b) {
        Desk.sentence("WORDS: a letter or _, then these and digits");
        String script = "keep" + b + ";";
        if (in(GAPS, b)) {
            Desk.read(script, 1, 0, 0);
        } else if (inWord(b)) {
            Desk.read("<!>" + script, 0, 0, 0);
        } else if (b == '#') {
            Desk.read(script + "<!>", 1, 0, 0);
        } else if (b == ';') {
            Desk.read("keep;<!>;", 1, 0, 0);
        } else {
            Desk.read("keep<!>" + b + ";", 1, 0, 0);
        }
    }

    private static void inTag(char b) {
        Desk.sentence("TAGS: : and a word");
        Desk.read("if header<!>:" + b + "\"a\"\"b\"{}");
        String head = "if header:is";
        if (in(GAPS, b)) {
            Desk.read(head + b + "\"a\"\"b\"{}", 2, 2, 0);
        } else if (inWord(b)) {
            Desk.read("if header<!>:is" + b + "\"a\"\"b\"{}", 2, 0, 0);
        } else if (b == '#') {
            Desk.read(head + b + "\"a\"\"b\"{}<!>", 2, 0, 0);
        } else if (b == '[') {
            Desk.read(head + "[\"a\"<!>\"b\"{}", 2, 1, 0);
        } else if (b == '"') {
            // The string is empty, and the a behind it is a word.
            Desk.read(head + "\"\"<!>a\"\"b\"{}", 2, 1, 0);
        } else {
            Desk.read(head + "<!>" + b + "\"a\"\"b\"{}", 2, 0, 0);
        }
    }

    private static void behindNumber(char b) {
        Desk.sentence("A word or number has no letter, digit or _ behind it.");
        behindNumber("1", b, in(DIGITS, b) || in("KMGkmg", b));
        for (char unit : "KMGkmg".toCharArray()) {
            behindNumber("1" + unit, b, false);
        }
    }

    private static void behindNumber(String number, char b, boolean goesOn) {
        String head = "if size:over ";
        if (in(GAPS, b) || goesOn) {
            Desk.read(head + number + b + "{}");
        } else if (inWord(b)) {
            Desk.read(head + "<!>" + number + b + "{}");
        } else if (b == '#') {
            Desk.read(head + number + "#{}<!>");
        } else if (b == '{') {
            Desk.read(head + number + "{<!>{}");
        } else {
            Desk.read(head + number + "<!>" + b + "{}");
        }
    }

    private static void inQuoted(char b) {
        Desk.sentence("in \" \", where \\ stands for the byte behind it");
        String head = "require\"reject\";reject";
        if (b == '"') {
            Desk.read(head + "\"\"<!>\";", 1, 2, 2);
        } else if (b == '\\') {
            Desk.read(head + "<!>\"\\\";", 1, 1, 2);
        } else {
            Desk.read(head + "\"" + b + "\";", 1, 2, 2);
        }
        Desk.read(head + "\"\\" + b + "\";", 1, 2, 2);
    }

    private static void inText(char b) {
        Desk.sentence("text: , blanks and tabs, a LINE'S END (10, or 13 10), then lines up to one that is . alone");
        String head = "require\"reject\";reject ";
        Desk.read(head + (in(GAPS, b) ? "" : "<!>") + "text:" + b + "\n.\n;");
        Desk.read(head + (in(GAPS, b) ? "" : "<!>") + "text:\t " + b + "\n.\n;");
        // Behind a 13 the 10 of the line's end must follow at once.
        Desk.read(head + (in("\t\n ", b) ? "" : "<!>") + "text:" + b + " \n.\n;");
        Desk.read(head + (b == '\n' ? "" : "<!>") + "text:\r" + b + ".\n;");
        Desk.read(head + "text:\n" + b + (b == '.' ? "\n<!>.\n;" : "\n.\n;"));
        Desk.read(head + (b == '\n' ? "" : "<!>") + "text:\n" + b + ".\n;");
        Desk.read(head + (b == '\n' || b == '\r' ? "" : "<!>") + "text:\n." + b + "\n;");
        Desk.read(head + (b == '\n' ? "" : "<!>") + "text:\n.\r" + b + ";");
    }

    private static void inMailbox(char b) {
        Desk.sentence("behind fileinto none or more than 20 bytes, or one not 32 .. 126 but \"");
        String mark = b >= 32 && b <= 126 && b != '"' ? "" : "<!>";
        String head = "require\"fileinto\";fileinto" + mark;
        Desk.read(head + "\"\\" + b + "\";", 1, 2, 1);
        Desk.read(head + "\"x\\" + b + "\";", 1, 2, 1);
        Desk.read(head + "\"\\" + b + "x".repeat(19) + "\";", 1, 2, 1);
    }

    private static void inAddress(char b) {
        Desk.sentence("local: 1 .. 40 of A .. Z a .. z 0 .. 9 ! # $ % & ' * + - / = ? ^ _ ` { | } ~ and .");
        boolean common = in(BIG, b) || in(SMALL, b) || in(DIGITS, b) || b == '-';
        boolean local = common || in("!#$%&'*+/=?^_`{|}~", b);
        address("\\" + b + "@x", local);
        address("a\\" + b + "a@x", local || b == '.');
        address("a.\\" + b + ".a@x", local);
        Desk.sentence("domain: 1 .. 60 of A .. Z a .. z 0 .. 9 - and . (likewise)");
        address("x@\\" + b, common);
        address("x@a\\" + b + "a", common || b == '.');
        address("x@a.\\" + b + ".a", common);
        Desk.sentence("ADDRESS: local @ domain");
        address("a\\" + b + "b", b == '@');
        address("a@b\\" + b, common);
        address("\\" + b + "a@b", local);
    }

    private static void address(String address, boolean right) {
        Desk.read("redirect" + (right ? "" : "<!>") + "\"" + address + "\";", 1, 1, 0);
    }

    private static void inName(char b) {
        Desk.sentence("strings that are asked for are compared without case, too");
        name("require", "cop", b, "", "yY", ";");
        name("require", "", b, "opy", "cC", ";");
        name("require", "imap", b, "flags", "4", ";");
        name("require", "comparator-i", b, "ascii-numeric", ";", ";");
        name("require", "comparator", b, "i;ascii-numeric", "-", ";");
        String header = Desk.ALL + "if header";
        name(header + ":count", "g", b, "", "teTE", "\"\"\"\"{}");
        name(header + ":value", "l", b, "", "teTE", "\"\"\"\"{}");
        name(header + ":count", "", b, "q", "eE", "\"\"\"\"{}");
        name(header + ":value", "", b, "e", "glnGLN", "\"\"\"\"{}");
        name(header + ":comparator", "i", b, "octet", ";", "\"\"\"\"{}");
        name(header + ":comparator", "i;ascii-case", b, "ap", "mM", "\"\"\"\"{}");
        name(header + ":comparator", "i;ascii-numeri", b, "", "cC", "\"\"\"\"{}");
    }

    private static void name(String head, String before, char b, String behind, String right, String tail) {
        Desk.read(head + (in(right, b) ? "" : "<!>") + "\"" + before + "\\" + b + behind + "\"" + tail);
    }
}
