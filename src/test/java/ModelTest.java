import java.util.Random;

/** Promises 3, 4 and 5 on made-up scripts, right ones and spoilt ones, beside the model's answers. */
public final class ModelTest {
    private static final int SCRIPTS = 60000;
    private static final String[] NAMES = {"fileinto", "reject", "envelope", "copy", "imap4flags", "relational",
        "vacation", "comparator-i;ascii-numeric"};
    private static final String[] PIECES = {";", ",", "(", ")", "[", "]", "{", "}", "\"a\"", "\"\"", "\"", "\\", ":is",
        ":copy", ":flags", ":", "keep", "stop;", "if ", "else", "elsif ", "not ", "true", "require\"copy\";", "1", "2G",
        "text:\n.\n", "text:", "\n", "\r", ".", "/*", "*/", "#", " ", "_", "\u0000", "\u00e9", "K", "@", "\"gt\"", "end",
        "string", "number", "fileinto\"x\";", "if true{", "not not ", "anyof(", "\"a\",\"b\",", "/"};

    private static Random random;
    private static boolean spoilt;

    public static void main(String[] args) {
        random = new Random(2026);
        int[] seen = new int[2];
        SieveDesk desk = new SieveDesk();
        for (int i = 0; i < SCRIPTS; i++) {
            if (i % 8 == 0) {
                desk = new SieveDesk();
            }
            seen[compare(desk, made(i)) ? 0 : 1]++;
        }
        System.out.println(seen[0] + " right scripts, " + seen[1] + " with a fault");
        Desk.due("enough right ones", seen[0] > SCRIPTS / 10, true);
        Desk.due("enough with a fault", seen[1] > SCRIPTS / 10, true);
        Desk.end();
    }

    private static boolean compare(SieveDesk desk, String script) {
        Model model = new Model(script);
        String shown = script.replace("\r", "\\r").replace("\n", "\\n");
        Desk.due(shown + ": put", Desk.put(desk, script), true);
        Desk.due(shown + ": check()", desk.check(), model.line);
        Desk.due(shown + ": place()", desk.place(), model.place);
        Desk.due(shown + ": count(1)", desk.count(1), model.things);
        Desk.due(shown + ": count(2)", desk.count(2), model.strings);
        Desk.due(shown + ": count(3)", desk.count(3), model.required);
        return model.place < 0;
    }

    private static String made(int number) {
        spoilt = number % 3 == 0;
        StringBuilder script = new StringBuilder();
        if (random.nextInt(12) > 0) {
            script.append("require[");
            int from = random.nextInt(3) == 0 ? random.nextInt(NAMES.length) : 0;
            for (int i = from; i < NAMES.length; i++) {
                script.append(i == from ? "" : ",").append('"').append(cased(NAMES[i])).append('"');
            }
            script.append("];");
        }
        int until = random.nextInt(400);
        do {
            script.append(command(0));
        } while (script.length() < until);
        if (number % 3 == 1) {
            for (int i = random.nextInt(3); i >= 0; i--) {
                spoil(script);
            }
        }
        if (random.nextInt(40) == 0) {
            script.append(";".repeat(400));
        }
        script.setLength(Math.min(script.length(), 400));
        return script.toString();
    }

    private static void spoil(StringBuilder script) {
        int at = random.nextInt(script.length() + 1);
        int end = Math.min(script.length(), at + random.nextInt(4));
        script.replace(at, end, random.nextBoolean() ? any(PIECES) : "");
    }

    private static String any(String... texts) {
        return texts[random.nextInt(texts.length)];
    }

    private static boolean rarely() {
        return spoilt && random.nextInt(40) == 0;
    }

    private static String cased(String text) {
        return random.nextInt(10) == 0 ? text.toUpperCase() : text;
    }

    private static String gap() {
        switch (random.nextInt(30)) {
            case 0:
                return "\n";
            case 1:
                return " #x\n";
            case 2:
                return "/* * */";
            case 3:
                return "\r\n\t";
            case 4:
                return rarely() ? any(PIECES) : " ";
            default:
                return " ";
        }
    }

    private static String string() {
        switch (random.nextInt(12)) {
            case 0:
                return "\"\\\"\\\\\"";
            case 1:
                return "text: \r\n..a\n.b\n.\n";
            case 2:
                return "text:\n.\r\n";
            case 3:
                return "\"" + "\\x".repeat(random.nextInt(3)) + "y".repeat(rarely() ? 198 + random.nextInt(5) : 1) + "\"";
            default:
                return any("\"\"", "\"a\"", "\"bc\"");
        }
    }

    private static String list() {
        if (random.nextInt(3) > 0) {
            return string();
        }
        int many = random.nextInt(8) == 0 ? 9 + random.nextInt(3) : 1 + random.nextInt(3);
        StringBuilder list = new StringBuilder("[");
        for (int i = 0; i < many; i++) {
            list.append(i == 0 ? "" : ",").append(many > 4 ? "\"\"" : string());
        }
        return list.append("]").toString();
    }

    private static String number() {
        return rarely() ? any("2147483648", "2G", "2048m", "1x", "99999999999999999999") : any("0", "7k", "1G", "2147483647");
    }

    private static String mailbox() {
        return rarely() ? string() : "\"" + "M~ !".repeat(random.nextInt(5)) + (rarely() ? "longer" : "x") + "\"";
    }

    private static String address() {
        return rarely()
            ? any("\"a\"", "\"a.@b\"", "\"a@b..c\"", "\"@\"", "\"" + "a".repeat(41) + "@b\"", "\"a@" + "b".repeat(61) + "\"")
            : any("\"a@b\"", "\"a.b+c@d-e.f\"", "\"" + "a".repeat(40) + "@b\"", "\"a@" + "b".repeat(60) + "\"");
    }

    private static String tag(String tag) {
        String end = rarely() ? any("_", "1", ":", "") : "";
        switch (tag) {
            case "flags":
            case "addresses":
                end += gap() + list();
                break;
            case "days":
                end += gap() + number();
                break;
            case "subject":
            case "handle":
                end += gap() + string();
                break;
            case "count":
            case "value":
                end += rarely() ? string() : "\"" + cased(any("gt", "ge", "lt", "le", "eq", "ne")) + "\"";
                break;
            case "comparator":
                end += rarely() ? string() : "\"" + cased(any("i;octet", "i;ascii-casemap", "i;ascii-numeric")) + "\"";
                break;
            default:
                break;
        }
        return gap() + ":" + cased(tag) + end;
    }

    private static String tags(String... groups) {
        StringBuilder tags = new StringBuilder();
        for (String group : groups) {
            if (random.nextInt(3) == 0) {
                String one = tag(any(group.split(" ")));
                tags.insert(random.nextBoolean() ? 0 : tags.length(), one);
            }
        }
        if (rarely()) {
            tags.append(tag(any("is", "copy", "flags", "days", "all", "comparator", "over", "keep")));
        }
        return tags + gap();
    }

    private static String command(int depth) {
        String word = any("if", "if", "if", "stop", "discard", "keep", "fileinto", "redirect", "reject", "setflag",
            "addflag", "removeflag", "vacation");
        if (depth > 0 && random.nextInt(3) == 0) {
            word = "if";
        }
        String end = (rarely() ? any(PIECES) : "") + ";" + (rarely() ? any(PIECES) : "");
        switch (word) {
            case "if":
                return ifCommand(depth);
            case "keep":
                return cased(word) + tags("flags") + end;
            case "fileinto":
                return cased(word) + tags("flags", "copy") + mailbox() + end;
            case "redirect":
                return cased(word) + tags("copy") + address() + end;
            case "reject":
                return cased(word) + gap() + string() + end;
            case "setflag":
            case "addflag":
            case "removeflag":
                return cased(word) + gap() + list() + end;
            case "vacation":
                return cased(word) + tags("days", "subject", "addresses", "handle") + string() + end;
            default:
                return cased(word) + end;
        }
    }

    private static String block(int depth) {
        StringBuilder block = new StringBuilder("{");
        if (depth < 10) {
            for (int i = random.nextInt(3); i > 0; i--) {
                block.append(command(depth + 1));
            }
        }
        return block.append(gap()).append("}").toString();
    }

    private static String ifCommand(int depth) {
        StringBuilder text = new StringBuilder(cased("if")).append(gap()).append(test(0)).append(block(depth));
        while (random.nextInt(4) == 0) {
            text.append("elsif").append(gap()).append(test(0)).append(block(depth));
        }
        if (random.nextInt(4) == 0) {
            text.append("else").append(block(depth));
        }
        return text.toString();
    }

    private static String test(int level) {
        if (level > 9 || random.nextInt(3) == 0) {
            return any("true", "false", "TRUE");
        }
        String word = any("header", "address", "envelope", "hasflag", "exists", "size", "allof", "anyof", "not", "not", "not");
        switch (word) {
            case "header":
                return word + tags("is contains matches count value", "comparator") + list() + gap() + list();
            case "address":
            case "envelope":
                return word + tags("is contains matches count value", "comparator", "all localpart domain")
                    + list() + gap() + list();
            case "hasflag":
                return word + tags("is contains matches count value", "comparator") + list();
            case "exists":
                return word + gap() + list();
            case "size":
                return word + gap() + any(":over ", ":UNDER ") + number();
            case "not":
                return "not " + test(level + 1);
            default:
                StringBuilder tests = new StringBuilder(word).append("(").append(test(level + 1));
                while (random.nextInt(2) == 0) {
                    tests.append(",").append(gap()).append(test(level + 1));
                }
                return tests.append(")").toString();
        }
    }
}
