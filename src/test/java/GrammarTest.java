/** Promise 3 and 4 over the productions. */
public final class GrammarTest {
    private static final String ALL = Desk.ALL;
    private static final String COMMANDS = " if stop discard keep fileinto redirect reject setflag addflag removeflag vacation ";
    private static final String TESTS = " header address envelope hasflag exists size allof anyof not true false ";
    private static final String OTHERS = " require elsif else is contains matches count value comparator all localpart domain "
        + "flags copy days subject addresses handle over under text string number strings script command block test how and or ";

    public static void main(String[] args) {
        require();
        strings();
        simpleCommands();
        flagCommands();
        vacation();
        ifs();
        headerTests();
        otherTests();
        wordsOutOfPlace();
        Desk.end();
    }

    private static void require() {
        Desk.readEach(
            ALL, "require\"copy\";", "require \"copy\";require[\"copy\"];require[\"copy\",\"copy\"];", "require\"COPY\";",
            "require\"Comparator-I;ASCII-numeric\";", "require<!>;", "require[<!>];", "require\"copy\"<!>", "require<!>",
            "require\"copy\"<!>keep;", "require\"copy\"<!>\"copy\";", "require <!>:copy\"copy\";", "require <!>copy;",
            "keep;<!>require\"copy\";", "if true{<!>require\"copy\";}", "require\"copy\";keep;<!>require\"reject\";",
            "require<!>\"\";", "require<!>\"cop\";", "require<!>\"copyy\";", "require[\"copy\",<!>\"x\"];",
            "require<!>\"i;ascii-numeric\";", "require<!>\"comparator-i;octet\";", "require<!>\" copy\";",
            "require<!>\"copy \";", "require<!>\"COP\u0059\u0000\";", "require<!>\"{opy\";", "require<!>\"Gt\";",
            "require<!>\"c\u00cfpy\";", "require[\"copy\"<!>;", "require <!>1;");
    }

    private static void strings() {
        String ten = "\"a\",".repeat(9) + "\"a\"";
        Desk.readEach(
            "if exists\"a\"{}", "if exists[\"a\"]{}", "if exists [ \"a\" , \"b\" ] {}", "if exists[" + ten + "]{}",
            "if exists[" + ten + ",<!>\"b\"]{}", "if exists[" + ten + ",<!>]{}", "if exists[" + ten + ",<!>",
            "if exists[" + ten + "<!>\"b\"]{}", "if exists[" + ten + ",<!>\"", "if exists[" + ten + ",<!>,",
            "if exists[<!>]{}", "if exists[<!>,\"a\"]{}", "if exists[\"a\",<!>]{}", "if exists[\"a\"<!>\"b\"]{}",
            "if exists[\"a\",<!>,\"b\"]{}", "if exists[<!>[\"a\"]]{}", "if exists<!>{}", "if exists\"a\"<!>,\"b\"{}",
            "if exists[\"a\"<!>{}", "if exists[\"a\"]<!>]{}", "if exists[\"a\"<!>)", "if exists[<!>1]{}", "if exists[<!>{}", "if exists[" + ten + ",<!>{}",
            "if header[\"a\",<!>[\"b\"]{}", "if header[" + ten + ",<!>[\"b\"]{}",
            "if exists[<!>a]{}");
    }

    private static void simpleCommands() {
        Desk.readEach(
            "stop;", "discard;", "keep;", "stop;stop;discard;keep;", "stop<!>", "discard<!>", "keep<!>", "<!>;", "keep;<!>;",
            "stop <!>\"a\";", "discard <!>:copy;", "stop <!>stop;", "<!>{}", "<!>}", "keep;<!>}", "<!>(", "<!>[", "<!>,",
            "<!>foo;", "<!>true;", "<!>else{}", "<!>elsif true{}", "stop<!>,", "stop<!>{}",
            ALL + "fileinto\"a\";", ALL + "fileinto:copy\"a\";", ALL + "fileinto:flags\"f\"\"a\";",
            ALL + "fileinto:copy:flags\"f\"\"a\";", ALL + "fileinto:flags[\"f\",\"g\"]:copy\"a\";",
            ALL + "fileinto:copy<!>:copy\"a\";", ALL + "fileinto:flags\"f\"<!>:flags\"f\"\"a\";",
            ALL + "fileinto:flags\"f\":copy<!>:flags\"f\"\"a\";", ALL + "fileinto:copy:flags\"f\"<!>:copy\"a\";",
            ALL + "fileinto<!>;", ALL + "fileinto\"a\"<!>\"b\";", ALL + "fileinto<!>[\"a\"];", ALL + "fileinto\"a\"<!>:copy;",
            ALL + "fileinto:flags<!>:copy\"a\";", ALL + "fileinto:flags\"f\"<!>;", ALL + "fileinto<!>:is\"a\";",
            ALL + "fileinto<!>:days 1\"a\";", ALL + "fileinto\"a\"<!>",
            ALL + "keep:flags\"f\";", ALL + "keep:flags[\"f\"];", ALL + "keep<!>:copy;", ALL + "keep:flags<!>;",
            ALL + "keep:flags\"f\"<!>:flags\"f\";", ALL + "keep:flags\"f\"<!>\"g\";", ALL + "keep<!>\"f\";",
            "redirect\"a@b\";", ALL + "redirect:copy\"a@b\";", ALL + "redirect:copy<!>:copy\"a@b\";",
            ALL + "redirect<!>:flags\"f\"\"a@b\";", "redirect<!>[\"a@b\"];", "redirect<!>;", "redirect\"a@b\"<!>",
            ALL + "redirect\"a@b\"<!>:copy;", ALL + "redirect:copy<!>;",
            ALL + "reject\"no\";", ALL + "reject<!>[\"no\"];", ALL + "reject<!>;", ALL + "reject<!>:copy\"a\";",
            ALL + "reject\"\";", ALL + "reject\"no\"<!>\"no\";");
    }

    private static void flagCommands() {
        for (String word : new String[] {"setflag", "addflag", "removeflag"}) {
            Desk.readEach(
                ALL + word + "\"a\";", ALL + word + "[\"a\",\"b\"];", ALL + word + "<!>;", ALL + word + "[<!>];",
                ALL + word + "\"a\"<!>\"b\";", ALL + word + "<!>:flags\"b\";", ALL + word + "\"a\"<!>",
                "<!>" + word + "\"a\";", "require\"imap4flags\";" + word + "\"\";");
        }
    }

    private static void vacation() {
        Desk.readEach(
            ALL + "vacation\"a\";", ALL + "vacation:days 7\"a\";", ALL + "vacation:subject\"s\"\"a\";",
            ALL + "vacation:addresses\"s\"\"a\";", ALL + "vacation:addresses[\"s\",\"x\"]\"a\";",
            ALL + "vacation:handle\"s\"\"a\";", ALL + "vacation:handle\"s\":addresses\"s\":subject\"s\":days 1k\"a\";",
            ALL + "vacation:days 7<!>:days 7\"a\";", ALL + "vacation:subject\"s\"<!>:subject\"s\"\"a\";",
            ALL + "vacation:addresses\"s\":days 1<!>:addresses\"s\"\"a\";", ALL + "vacation:handle\"s\"<!>:handle\"s\"\"a\";",
            ALL + "vacation<!>;", ALL + "vacation:days 7<!>;", ALL + "vacation:days<!>\"a\";", ALL + "vacation:days<!>:days",
            ALL + "vacation:subject<!>[\"s\"]\"a\";", ALL + "vacation:handle <!>7\"a\";", ALL + "vacation:subject\"s\"<!>;",
            ALL + "vacation\"a\"<!>:days 7;", ALL + "vacation<!>:copy\"a\";", ALL + "vacation<!>:over 1\"a\";",
            ALL + "vacation<!>[\"a\"];", ALL + "vacation <!>7;", ALL + "vacation<!>:flags\"a\"\"b\";");
    }

    private static void ifs() {
        Desk.readEach(
            "if true{}", "if true{keep;stop;}", "if true{}else{}", "if true{}elsif false{}",
            "if true{}elsif true{}elsif true{keep;}else{stop;}", "if true{if true{}else{}}else{if true{}}", "if true{}if true{}",
            "if true{}keep;", "if true{}else{}keep;", "if true{}else{}if true{}else{}", "if<!>", "if<!>{}", "if true<!>",
            "if true<!>;", "if true <!>keep;", "if true{<!>", "if true{keep;<!>", "if true{}<!>}", "if true{<!>;}",
            "if true{}<!>;", "if true{}else<!>", "if true{}else <!>true{}", "if true{}else <!>if true{}", "if true{}elsif<!>{}",
            "if true{}elsif true<!>", "if true{}else{}<!>else{}", "if true{}else{}<!>elsif true{}",
            "if true{}keep;<!>else{}", "if true{}keep;<!>elsif true{}", "if true{<!>else{}}", "if true{keep<!>}",
            "if true{}elsif true{<!>", "if true{}else{<!>", "if true{}<!>{}", "if <!>if true{}", "if<!>(true){}",
            "if true{<!>{}}", "if true <!>true{}", "if <!>elsif true{}", "if true{}<!>,", "if true<!>,true{}");
    }

    private static void headerTests() {
        for (String word : new String[] {"header", "address", "envelope"}) {
            String head = ALL + "if " + word;
            Desk.readEach(
                head + "\"a\"\"b\"{}", head + "[\"a\",\"b\"][\"c\"]{}", head + ":is\"a\"\"b\"{}", head + ":contains\"a\"\"b\"{}",
                head + ":matches\"a\"\"b\"{}", head + ":count\"gt\"\"a\"\"b\"{}", head + ":value\"NE\"\"a\"\"b\"{}",
                head + ":comparator\"i;octet\"\"a\"\"b\"{}", head + ":comparator\"i;octet\":is\"a\"\"b\"{}",
                head + ":is:comparator\"I;ASCII-CASEMAP\"\"a\"\"b\"{}", head + "\"a\"<!>{}", head + "<!>{}",
                head + ":is\"a\"<!>{}", head + "\"a\"<!>:is\"b\"{}", head + "\"a\"\"b\"<!>:is{}", head + "\"a\"\"b\"<!>\"c\"{}",
                head + ":is<!>:is\"a\"\"b\"{}", head + ":is<!>:contains\"a\"\"b\"{}", head + ":matches<!>:count\"gt\"\"a\"\"b\"{}",
                head + ":value\"gt\"<!>:is\"a\"\"b\"{}", head + ":count\"gt\"<!>:value\"gt\"\"a\"\"b\"{}",
                head + ":comparator\"i;octet\"<!>:comparator\"i;octet\"\"a\"\"b\"{}",
                head + ":comparator\"i;octet\":is<!>:comparator\"i;octet\"\"a\"\"b\"{}", head + ":count<!>[\"gt\"]\"a\"\"b\"{}",
                head + ":comparator<!>:is\"a\"\"b\"{}", head + "<!>:copy\"a\"\"b\"{}", head + "<!>:over 1\"a\"\"b\"{}",
                head + "<!>:foo\"a\"\"b\"{}", head + "<!>:flags\"a\"\"b\"{}", head + ":value <!>1\"a\"\"b\"{}", head + "<!>(");
        }
        for (String word : new String[] {"address", "envelope"}) {
            String head = ALL + "if " + word;
            for (String part : new String[] {":all", ":localpart", ":domain"}) {
                Desk.readEach(
                    head + part + "\"a\"\"b\"{}", head + part + ":is\"a\"\"b\"{}", head + ":is" + part + "\"a\"\"b\"{}",
                    head + ":comparator\"i;octet\"" + part + ":is\"a\"\"b\"{}", head + part + "<!>:all\"a\"\"b\"{}",
                    head + part + ":is<!>:localpart\"a\"\"b\"{}", head + part + "<!>:domain\"a\"\"b\"{}");
            }
        }
        for (String part : new String[] {":all", ":localpart", ":domain"}) {
            Desk.readEach(
                "if header<!>" + part + "\"a\"\"b\"{}", "if header:is<!>" + part + "\"a\"\"b\"{}",
                ALL + "if hasflag<!>" + part + "\"a\"{}", ALL + "if hasflag:is<!>" + part + "\"a\"{}");
        }
    }

    private static void otherTests() {
        Desk.readEach(
            ALL + "if hasflag\"a\"{}", ALL + "if hasflag:is[\"a\"]{}", ALL + "if hasflag:comparator\"i;octet\":count\"ge\"\"a\"{}",
            ALL + "if hasflag\"a\"<!>\"b\"{}", ALL + "if hasflag<!>{}", ALL + "if hasflag:is<!>:is\"a\"{}",
            "if exists<!>:is\"a\"{}", "if exists\"a\"<!>\"b\"{}",
            "if size:over 1{}", "if size:UNDER 1k{}", "if size <!>1{}", "if size:over<!>{}", "if size:over<!>\"1\"{}",
            "if size:over 1<!>:under 2{}", "if size <!>over 1{}", "if size <!>under 1{}",
            "if size:over<!>:under 2{}", "if size<!>:is 1{}", "if size:over 1 <!>1{}", "if size<!>{}",
            "if allof(true){}", "if anyof(true,false,true){}", "if allof(anyof(true),not false){}", "if allof <!>true{}",
            "if allof(<!>){}", "if allof(true<!>{}", "if allof(true,<!>){}", "if allof(true <!>true){}", "if allof(<!>,true){}",
            "if allof(true)<!>,true{}", "if allof(true)<!>){}", "if anyof<!>[true]{}", "if anyof(true<!>;", "if allof<!>{}",
            "if allof(<!>(true)){}", "if allof(<!>keep){}", "if allof(true,<!>",
            "if not true{}", "if not not false{}", "if not<!>{}", "if not<!>(true){}", "if not true<!>,false{}",
            "if true<!>(){}", "if false<!>\"a\"{}", "if <!>foo{}", "if <!>\"a\"{}", "if <!>1{}", "if<!>;");
    }

    /** Each word at each place where a word may stand: it goes on there, up to the end, or is at fault. */
    private static void wordsOutOfPlace() {
        Desk.sentence("a token with which no script goes on");
        for (String word : (COMMANDS + TESTS + OTHERS).trim().split(" +")) {
            place(ALL, word, COMMANDS + "require ");
            place(ALL + "keep;", word, COMMANDS);
            place(ALL + "if true{", word, COMMANDS);
            place(ALL + "if true{}", word, COMMANDS + "elsif else ");
            place(ALL + "if true{}elsif true{}", word, COMMANDS + "elsif else ");
            place(ALL + "if true{}else{}", word, COMMANDS);
            place(ALL + "if true{}keep;", word, COMMANDS);
            place(ALL + "if true{if true{}", word, COMMANDS + "elsif else ");
            place(ALL + "if true{}else{", word, COMMANDS);
            for (String head : new String[] {"if ", "if not ", "if allof(", "if anyof(true,", "if true{}elsif "}) {
                place(ALL + head, word, TESTS);
            }
            for (String head : new String[] {"keep ", "stop ", "redirect ", "reject ", "require ", "require[", "fileinto ", "setflag ",
                "vacation ", "vacation:days ", "if header ", "if header\"a\"", "if exists[\"a\",", "if size ", "if size:over ",
                "if allof ", "if allof(true ", "if true ", "if true{}else "}) {
                place((head.startsWith("require") ? "" : ALL) + head, word, "");
            }
        }
    }

    private static void place(String head, String word, String goOn) {
        Desk.read(goOn.contains(" " + word + " ") ? head + word + "<!>" : head + "<!>" + word);
        Desk.read(goOn.contains(" " + word + " ") ? head + word + "<!>@" : head + "<!>" + word + "@");
    }
}
