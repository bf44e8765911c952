import java.util.HashSet;
import java.util.List;
import java.util.Random;
import java.util.Set;

/**
 * Promises 3, 4 and 5 over the productions as the document writes them: rows of tokens that go on by
 * them, up to one with which they do not, or to the end. The limits are kept to, all is required, and
 * each string says what is asked for, so that but for the tags nothing else can be at fault.
 */
public final class ProductionTest {
    /** The document's words, without the limits, and with "in any order" written out. */
    private static final String DOCUMENT = "script: ('require' strings ';')* command*."
        + "   strings: string | '[' string (',' string)* ']'.   block: '{' command* '}'."
        + "   command: 'if' test block ('elsif' test block)* ['else' block] | 'stop' ';' | 'discard' ';'"
        + " | 'keep' [flags] ';' | 'fileinto' ([flags] [':copy'] | ':copy' flags) string ';'"
        + " | 'redirect' [':copy'] string ';' | 'reject' string ';'"
        + " | ('setflag' | 'addflag' | 'removeflag') strings ';'"
        + " | 'vacation' (':days' number | ':subject' string | ':addresses' strings | ':handle' string)* string ';'."
        + "   flags: ':flags' strings."
        + "   test: ('header' | 'address' | 'envelope') how strings strings | 'hasflag' how strings"
        + " | 'exists' strings | 'size' (':over' | ':under') number"
        + " | ('allof' | 'anyof') '(' test (',' test)* ')' | 'not' test | 'true' | 'false'."
        + "   how: (':is' | ':contains' | ':matches' | ':count' string | ':value' string | ':comparator' string"
        + " | ':all' | ':localpart' | ':domain')*.";
    private static final List<String> THINGS = List.of("if", "stop", "discard", "keep", "fileinto", "redirect",
        "reject", "setflag", "addflag", "removeflag", "vacation", "header", "address", "envelope", "hasflag", "exists",
        "size", "allof", "anyof", "not", "true", "false");
    private static final List<String> MATCHES = List.of(":is", ":contains", ":matches", ":count", ":value");
    private static final List<String> PARTS = List.of(":all", ":localpart", ":domain");
    private static final List<String> OTHERS = List.of("require", "elsif", "else", ":comparator", ":flags", ":copy",
        ":days", ":subject", ":addresses", ":handle", ":over", ":under", ";", ",", "(", ")", "[", "]", "{", "}",
        "string", "number", "strings", "block", "command", "test", "flags", "how", ":string", ":keep", ":true");
    private static final List<String> CLOSING = List.of("]", ")", "}", "elsif", "else");
    private static final String END = "";
    private static final int ROWS = 40000;

    private static final Random RANDOM = new Random(3);
    private static final Productions PRODUCTIONS = new Productions(DOCUMENT);
    private static final Set<String> GO_ON = new HashSet<>();
    private static final Set<String> DO_NOT = new HashSet<>();

    private final StringBuilder script = new StringBuilder();
    private final Set<String> tags = new HashSet<>();
    private String before = ";";
    /** The command or test that the tags belong to. */
    private String owner = "";
    private int things = 0;
    private int strings = 0;
    private int blocks = 0;
    private int nested = 0;
    private int listed = 0;

    public static void main(String[] args) {
        Desk.sentence("a token with which no script goes on, or the end");
        for (int i = 0; i < ROWS; i++) {
            new ProductionTest().read();
        }
        System.out.println(GO_ON.size() + " pairs of tokens that go on, " + DO_NOT.size() + " that do not");
        Desk.due("enough that go on", GO_ON.size() > 250, true);
        Desk.due("enough that do not", DO_NOT.size() > 1500, true);
        Desk.end();
    }

    private void read() {
        requireAll();
        int until = script.length() + RANDOM.nextInt(260);
        String token = chosen(until);
        while (!token.equals(END) && goesOn(token)) {
            PRODUCTIONS.take(token);
            script.append(gap()).append(written(token));
            note(token);
            token = chosen(until);
        }
        if (!goesOn(token)) {
            DO_NOT.add(before + " " + token);
            script.append(gap()).append(Desk.FAULT).append(written(token));
        }
        Desk.read(script.toString(), things, strings, 255);
    }

    private void requireAll() {
        PRODUCTIONS.begin("script");
        script.append(Desk.ALL);
        PRODUCTIONS.take("require");
        PRODUCTIONS.take("[");
        for (strings = 1; strings < 8; strings++) {
            PRODUCTIONS.take("string");
            PRODUCTIONS.take(",");
        }
        PRODUCTIONS.take("string");
        PRODUCTIONS.take("]");
        PRODUCTIONS.take(";");
    }

    /** Mostly a token that can be next, now and then any one; the end, if that would be one too many. */
    private String chosen(int until) {
        if (script.length() > until) {
            return END;
        }
        String token = RANDOM.nextInt(16) > 0 ? next() : any(any(List.of(THINGS, MATCHES, PARTS, OTHERS)));
        return isTooMany(token) ? END : token;
    }

    /** Often one that closes what is open: few rows would come to what stands behind it. */
    private static String next() {
        List<String> next = PRODUCTIONS.next();
        List<String> closing = CLOSING.stream().filter(next::contains).toList();
        return any(closing.isEmpty() || RANDOM.nextBoolean() ? next : closing);
    }

    private static <T> T any(List<T> some) {
        return some.get(RANDOM.nextInt(some.size()));
    }

    private boolean isTooMany(String token) {
        return switch (token) {
            case "not", "allof", "anyof" -> nested >= 7 || things >= 40;
            case "if" -> blocks >= 8 || things >= 40;
            case "," -> listed >= 9;
            case "string" -> strings >= 60;
            default -> things >= 40 && THINGS.contains(token);
        };
    }

    private boolean goesOn(String token) {
        return PRODUCTIONS.next().contains(token) && !tags.contains(group(token))
            && !(PARTS.contains(token) && List.of("header", "hasflag").contains(owner));
    }

    private static String group(String tag) {
        return MATCHES.contains(tag) ? ":is .. :value" : PARTS.contains(tag) ? ":all .. :domain" : tag;
    }

    private static String gap() {
        return RANDOM.nextInt(9) == 0 ? "\n" : " ";
    }

    private String written(String token) {
        return switch (token) {
            case "string" -> "\"" + said() + "\"";
            case "number" -> "1";
            default -> token;
        };
    }

    private String said() {
        return switch (before) {
            case ":count", ":value" -> "gt";
            case ":comparator" -> "i;octet";
            default -> owner.equals("require") ? "copy" : "a@b.c";
        };
    }

    private void note(String token) {
        GO_ON.add(before + " " + token);
        before = token;
        if (token.startsWith(":")) {
            tags.add(group(token));
        } else if (Character.isLetter(token.charAt(0)) && !token.equals("string") && !token.equals("number")) {
            owner = token;
            tags.clear();
        }
        things += THINGS.contains(token) ? 1 : 0;
        switch (token) {
            case "string" -> strings++;
            case "{" -> blocks++;
            case "}" -> blocks--;
            case "[" -> listed = 0;
            case "]" -> listed = 0;
            case "," -> listed++;
            case "not", "allof", "anyof" -> nested++;
            case "if", "elsif" -> nested = 0;
            default -> { }
        }
    }
}
