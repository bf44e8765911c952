/** Promise 3 and 4 over the tokens, and the gaps between them. */
public final class TokenTest {
    /** What stands before a word of the language, the word or tag, and what goes on behind it. */
    private static final String[][] WORDS = {{"", "require", "\"copy\";"}, {"", "if", " true{}"}, {"if true{}", "elsif", " true{}"},
        {"if true{}", "else", "{}"}, {"", "stop", ";"}, {"", "discard", ";"}, {"", "keep", ";"}, {"", "fileinto", "\"a\";"},
        {"", "redirect", "\"a@b\";"}, {"", "reject", "\"a\";"}, {"", "setflag", "\"a\";"}, {"", "addflag", "\"a\";"},
        {"", "removeflag", "\"a\";"}, {"", "vacation", "\"a\";"}, {"if ", "header", "\"a\"\"b\"{}"},
        {"if ", "address", "\"a\"\"b\"{}"}, {"if ", "envelope", "\"a\"\"b\"{}"}, {"if ", "hasflag", "\"a\"{}"},
        {"if ", "exists", "\"a\"{}"}, {"if ", "size", ":over 1{}"}, {"if ", "allof", "(true){}"}, {"if ", "anyof", "(true){}"},
        {"if ", "not", " true{}"}, {"if ", "true", "{}"}, {"if ", "false", "{}"}, {"keep", ":flags", "\"a\";"},
        {"fileinto", ":flags", "\"a\"\"b\";"}, {"fileinto", ":copy", "\"a\";"}, {"redirect", ":copy", "\"a@b\";"},
        {"vacation", ":days", " 1\"a\";"}, {"vacation", ":subject", "\"a\"\"b\";"}, {"vacation", ":addresses", "\"a\"\"b\";"},
        {"vacation", ":handle", "\"a\"\"b\";"}, {"if header", ":is", "\"a\"\"b\"{}"}, {"if header", ":contains", "\"a\"\"b\"{}"},
        {"if header", ":matches", "\"a\"\"b\"{}"}, {"if header", ":count", "\"gt\"\"a\"\"b\"{}"},
        {"if header", ":value", "\"gt\"\"a\"\"b\"{}"}, {"if header", ":comparator", "\"i;octet\"\"a\"\"b\"{}"},
        {"if address", ":all", "\"a\"\"b\"{}"}, {"if address", ":localpart", "\"a\"\"b\"{}"},
        {"if address", ":domain", "\"a\"\"b\"{}"}, {"if size", ":over", " 1{}"}, {"if size", ":under", " 1{}"}};

    public static void main(String[] args) {
        gaps();
        words();
        eachWord();
        tags();
        numbers();
        quoted();
        text();
        Desk.end();
    }

    private static void gaps() {
        Desk.readEach(
            "", " ", "\t\n\r ", "keep;", "keep ; stop\t;\r\ndiscard\n;\r",
            "# all of it", "#\nkeep;#", "keep#;\n;", "#keep\r;", "#keep\r\n<!>;", "#\r\n<!>foo",
            "/**/keep;", "keep/* ; */;", "/*/ keep; */keep;", "/***/keep;", "/* * / **/keep;", "/* # */keep;",
            "# /*\nkeep;", "/* \n\n */keep\n<!>}", "/**//**/<!>/",
            "keep; <!>/* x", "keep; <!>/*/", "keep; <!>/* * /", "\n<!>/*", "keep; <!>/**", "<!>/", "<!>/ * */",
            "keep<!>/* ;", "keep; # x\n<!>/*\n",
            "<!>\u0000", "keep<!>\u000b;", "<!>\u000ckeep;", "<!>\u007f", "keep;<!>\u0080",
            "<!>\u00ff", "#\u00ff\u0000\nkeep;", "/*\u0080*/keep;", "<!>@", "<!>.", "<!>'", "<!>-1", "<!>\\",
            "keep;<!>*/", "keep<!>", "keep <!>", "keep # ;\n<!>", "keep # ;<!>");
    }

    private static void words() {
        Desk.readEach(
            "KEEP;", "kEeP;", "Stop;dIsCaRd;", "IF TRUE{}ELSIF FALSE{}ELSE{}", "iF nOt AnyOf(tRuE){}",
            "REQUIRE \"fileinto\";FILEINTO \"x\";",
            "<!>keeps;", "<!>keep_;", "<!>keep1;", "<!>_keep;", "<!>_;", "<!>k;", "<!>kee;", "<!>if1 true{}", "if <!>true_{}",
            "if <!>nottrue{}", "if not<!>{}", "<!>keepkeep;",
            "<!>text;", "<!>text", "<!>text :x", "<!>copy;", "<!>is;", "<!>header;", "if <!>keep{}", "if <!>copy{}");
    }

    private static void eachWord() {
        for (String[] row : WORDS) {
            String before = (row[1].equals("require") ? "" : Desk.ALL) + row[0];
            String word = row[1];
            Desk.sentence("WORDS: .. (compared without case, here and below)");
            Desk.readEach(before + word + row[2], before + word.toUpperCase() + row[2],
                before + word.substring(0, 2).toUpperCase() + word.substring(2) + row[2], before + "\n" + word + "\n" + row[2]);
            Desk.sentence("a token with which no script goes on");
            String cut = word.substring(0, word.length() - 1);
            for (String wrong : new String[] {cut, cut + "_", word + "x", word + "_", word + "0", word + word.charAt(word.length() - 1),
                word.substring(0, 1) + "_" + word.substring(1), word.charAt(0) == ':' ? word.substring(1) : ":" + word}) {
                Desk.read(before + " <!>" + wrong + row[2]);
            }
        }
    }

    private static void tags() {
        Desk.readEach(
            "if header:is\"a\"\"b\"{}", "if header :IS \"a\" \"b\" {}", "if header :Contains\"a\"\"b\"{}",
            "if header <!>: is \"a\" \"b\" {}", "if header <!>:1 \"a\" \"b\" {}", "if header <!>:\"a\" \"b\" {}",
            "if header <!>: ", "if header <!>:", "if header <!>::is \"a\" \"b\" {}", "if header <!>:_ \"a\" \"b\" {}",
            "if header <!>:is1 \"a\" \"b\" {}", "if header <!>:is_ \"a\" \"b\" {}", "if header :is<!>:\"a\" \"b\" {}",
            "<!>:keep;", "if <!>:true {}", "keep <!>:keep;", "keep <!>:fileinto;", "if header <!>:header \"a\" \"b\"{}",
            "if header <!>:text:\n.\n \"b\"{}");
    }

    private static void numbers() {
        String[] right = {"0", "7", "00", "2147483647", "0000000000000000000000000000002147483647", "1K", "1k", "1M",
            "1m", "1G", "1g", "0G", "2097151K", "2047M", "2047m", "01G", "00000000000000000000000001g"};
        for (String number : right) {
            Desk.read("if size :over " + number + "{}");
            Desk.read("if anyof(size:under " + number + ",true){}");
        }
        String[] wrong = {"2147483648", "2147483650", "4294967296", "4294967297", "18446744073709551616",
            "9223372036854775807", "9223372036854775808", "99999999999999999999999999999999999999", "2097152K",
            "2097152k", "2048M", "2048m", "2G", "2g", "3G", "4G", "8G", "16G", "17179869184G", "1KK", "1Kb", "1K1",
            "1K_", "1_", "1a", "1T", "1x", "1Mtext", "10e3"};
        for (String number : wrong) {
            Desk.read("if size :over <!>" + number + "{}");
        }
        Desk.readEach(
            "if size :over 1<!>:is {}", "if size :over <!>-1{}", "if size :over 1<!>.5{}", "if size :over <!>K{}",
            "if size :over 1 <!>K{}", "<!>1;", "<!>3G;", "keep <!>1;", "require \"vacation\";vacation :days 1\"a\";",
            "if size :over 1/**/{}", "if size :over 1#\n{}");
    }

    private static void quoted() {
        String head = "require\"reject\";reject ";
        String a200 = "a".repeat(200);
        Desk.readEach(
            head + "\"\";", head + "\"\n\r\u0000\u0080\u00ff\";", head + "\"\\\"\";", head + "\"\\\\\";", head + "\"\\a\";",
            head + "\"/*\";", head + "\"#\";", head + "\"a\\\n\";", head + "<!>\"", head + "<!>\"a;", head + "<!>\"\\\";",
            head + "<!>\"\\", head + "<!>\"a\\\\\\\";", head + "\"\\\\\"<!>\"", head + "\"a\"<!>\"b\";",
            head + "\"" + a200 + "\";", head + "<!>\"" + a200 + "a\";", head + "<!>\"" + a200 + "a",
            head + "\"" + "\\a".repeat(150) + "\";", head + "\"" + "\\\"".repeat(170) + "\";",
            head + "\"" + "\\a".repeat(160) + "a".repeat(40) + "\";",
            head + "<!>\"" + "\\a".repeat(160) + "a".repeat(41) + "\";",
            head + "\"\n\n\";\n<!>}", "<!>\"a\";", "keep <!>\"a\";");
        // An escaped byte is part of what the string says.
        Desk.readEach(
            "require\"\\file\\into\";fileinto\"x\";", "require <!>\"file\\\\into\";", "redirect\"\\a\\@\\b\";",
            "require\"fileinto\";fileinto\"\\\\\";", "require\"fileinto\";fileinto<!>\"\\\"\";");
    }

    private static void text() {
        String head = "require\"reject\";reject ";
        Desk.readEach(
            head + "text:\n.\n;", head + "TEXT:\n.\n;", head + "Text: \t \nabc\n.\n;", head + "text:\r\n.\r\n;",
            head + "text:\r\nabc\r\n.\r\n;", head + "text:\nabc\n.\r\n;", head + "text:\n\n\n.\n;", head + "text:\n..\n.\n;",
            head + "text:\n...\n.a\n. \n .\n.\t\n.\n;", head + "text:\n\"\n#\n/*\n;\n.\n;", head + "text:\n.\r\r\n.\n;",
            head + "text:\n.\ra\n.\n;", head + "text:\n\u0000\u00ff\n.\n;", head + "text:\na\\\n.\n;",
            head + "text:\n" + "a".repeat(360) + "\n.\n;",
            head + "<!>text:", head + "<!>text:\n", head + "<!>text:\n.", head + "<!>text:\n.\r", head + "<!>text:\nabc\n",
            head + "<!>text:\nabc.\n", head + "<!>text:\nabc.\n;", head + "<!>text:\n..\n;", head + "<!>text:\n. \n;",
            head + "<!>text:\n.;", head + "<!>text:a\n.\n;", head + "<!>text: a\n.\n;", head + "<!>text: #\n.\n;",
            head + "<!>text:/**/\n.\n;", head + "<!>text:\r.\n;", head + "<!>text:\r \n.\n;", head + "<!>text:\u000b\n.\n;",
            head + "<!>text :\n.\n;", head + "<!>text\n:\n.\n;", head + "<!>text: ", head + "<!>text:\r",
            head + "<!>atext:\n.\n;", head + "<!>text_:\n.\n;", head + "<!>:text:\n.\n;", head + "<!>text:is\n.\n;",
            head + "text:\n.\n<!>.\n;", head + "text:\n.\n<!>", head + "text:\na\n.\n\n<!>keep;", "<!>text:\n.\n");
        // The lines keep their ends, so they never say what is asked for.
        Desk.readEach(
            "require <!>text:\nfileinto\n.\n;", "redirect <!>text:\na@b\n.\n;",
            "require\"fileinto\";fileinto <!>text:\nx\n.\n;", "require\"fileinto\";fileinto <!>text:\n.\n;",
            "if header :comparator <!>text:\ni;octet\n.\n\"a\"\"b\"{}");
    }
}
