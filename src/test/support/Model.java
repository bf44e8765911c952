import java.util.Arrays;
import java.util.HashSet;
import java.util.List;
import java.util.Locale;
import java.util.Set;
import java.util.regex.Matcher;
import java.util.regex.Pattern;

/** A second reader of scripts, by descent and with regular expressions, to compare answers with. */
final class Model {
    private static final List<String> NAMES = List.of("fileinto", "reject", "envelope", "copy", "imap4flags",
        "relational", "vacation", "comparator-i;ascii-numeric");
    private static final Pattern GAP = Pattern.compile("(?:[\\t\\n\\r ]|#[^\\n]*(?:\\n|$)|/\\*(?s:.*?)\\*/)*+");
    private static final Pattern TOKEN = Pattern.compile(
        "(?<text>(?i:text):[ \\t]*\\r?\\n(?<lines>(?:(?!\\.\\r?\\n)[^\\n]*\\n)*)\\.\\r?\\n)|(?<bad>(?i:text):)"
        + "|(?<word>[A-Za-z_][A-Za-z_0-9]*)|(?<tag>:[A-Za-z_][A-Za-z_0-9]*)"
        + "|(?<digits>[0-9]+)(?<unit>[KMGkmg]?)(?![A-Za-z_0-9])"
        + "|\"(?<quoted>(?s:[^\"\\\\]|\\\\.)*)\"|(?<sign>[;,()\\[\\]{}])");
    private static final Pattern ADDRESS = Pattern.compile(
        "(?=[^@]{1,40}@)(?:[A-Za-z0-9!#$%&'*+/=?^_`{|}~-]+\\.)*[A-Za-z0-9!#$%&'*+/=?^_`{|}~-]+"
        + "@(?=.{1,60}$)(?:[A-Za-z0-9-]+\\.)*[A-Za-z0-9-]+");

    private final String script;
    int place = -1;
    int line = 0;
    int things = 0;
    int strings = 0;
    int required = 0;

    private int start;
    private int end = 0;
    /** What the token is: "string", "number", "end", or the word, tag or sign itself. */
    private String token;
    private String said;

    private static final class Fault extends Exception {
        private static final long serialVersionUID = 1L;
    }

    Model(String script) {
        this.script = script;
        try {
            next();
            while (token.equals("require")) {
                next();
                list(true);
                take(";");
            }
            commands(0);
            is("end");
        } catch (Fault fault) {
            place = start;
            line = 1;
            for (int i = 0; i < place; i++) {
                line += script.charAt(i) == '\n' ? 1 : 0;
            }
        }
    }

    private void next() throws Fault {
        Matcher gap = GAP.matcher(script).region(end, script.length());
        start = gap.lookingAt() ? gap.end() : end;
        if (start == script.length()) {
            token = "end";
            return;
        }
        Matcher m = TOKEN.matcher(script).region(start, script.length());
        if (!m.lookingAt() || m.group("bad") != null) {
            throw new Fault();
        }
        end = m.end();
        said = null;
        if (m.group("text") != null) {
            token = "string";
            said = m.group("lines").replaceAll("(?<=^|\n)\\.\\.", ".");
        } else if (m.group("quoted") != null) {
            token = "string";
            said = m.group("quoted").replaceAll("(?s)\\\\(.)", "$1");
            demand(said.length() <= 200);
        } else if (m.group("digits") != null) {
            token = "number";
            int shift = "kmg".indexOf(m.group("unit").toLowerCase(Locale.ROOT)) * 10 + 10;
            java.math.BigInteger value = new java.math.BigInteger(m.group("digits"));
            demand(value.shiftLeft(m.group("unit").isEmpty() ? 0 : shift).bitLength() <= 31);
        } else {
            token = m.group().toLowerCase(Locale.ROOT);
            // No word of the language, lest it be taken for one of the names above.
            token = Set.of("string", "number", "end").contains(token) ? "_" : token;
        }
    }

    private static void demand(boolean right) throws Fault {
        if (!right) {
            throw new Fault();
        }
    }

    private void is(String wanted) throws Fault {
        demand(token.equals(wanted));
    }

    private void take(String wanted) throws Fault {
        is(wanted);
        next();
    }

    private boolean oneOf(String... tokens) {
        return Arrays.asList(tokens).contains(token);
    }

    private void needs(String name) throws Fault {
        demand((required >> NAMES.indexOf(name) & 1) == 1);
    }

    private String string() throws Fault {
        is("string");
        demand(strings < 60);
        strings++;
        return said;
    }

    private void list(boolean require) throws Fault {
        boolean many = token.equals("[");
        int listed = 0;
        do {
            if (many) {
                next();
            }
            demand(!token.equals("string") || listed < 10);
            String name = string().toLowerCase(Locale.ROOT);
            listed++;
            if (require) {
                demand(NAMES.contains(name));
                required |= 1 << NAMES.indexOf(name);
            }
            next();
        } while (many && token.equals(","));
        if (many) {
            take("]");
        }
    }

    private void begin() throws Fault {
        demand(things < 40);
        switch (token) {
            case "fileinto", "reject", "envelope", "vacation" -> needs(token);
            case "setflag", "addflag", "removeflag", "hasflag" -> needs("imap4flags");
            default -> { }
        }
        things++;
        next();
    }

    private void commands(int depth) throws Fault {
        while (oneOf("if", "stop", "discard", "keep", "fileinto", "redirect", "reject", "setflag", "addflag",
            "removeflag", "vacation")) {
            String word = token;
            demand(!word.equals("if") || depth < 8);
            begin();
            if (word.equals("if")) {
                test(1);
                block(depth + 1);
                while (token.equals("elsif")) {
                    next();
                    test(1);
                    block(depth + 1);
                }
                if (token.equals("else")) {
                    next();
                    block(depth + 1);
                }
                continue;
            }
            action(word);
            take(";");
        }
    }

    private void block(int depth) throws Fault {
        take("{");
        commands(depth);
        take("}");
    }

    private void action(String word) throws Fault {
        switch (word) {
            case "keep" -> tags(":flags");
            case "fileinto" -> {
                tags(":flags", ":copy");
                demand(string().matches("[ !#-~]{1,20}"));
                next();
            }
            case "redirect" -> {
                tags(":copy");
                demand(ADDRESS.matcher(string()).matches());
                next();
            }
            case "reject" -> {
                string();
                next();
            }
            case "setflag", "addflag", "removeflag" -> list(false);
            case "vacation" -> {
                tags(":days", ":subject", ":addresses", ":handle");
                string();
                next();
            }
            default -> { }
        }
    }

    private static String group(String tag) {
        return switch (tag) {
            case ":is", ":contains", ":matches", ":count", ":value" -> "match";
            case ":all", ":localpart", ":domain" -> "part";
            default -> tag;
        };
    }

    private void tags(String... allowed) throws Fault {
        Set<String> had = new HashSet<>();
        while (token.startsWith(":")) {
            String tag = token;
            demand(oneOf(allowed) && had.add(group(tag)));
            switch (tag) {
                case ":copy" -> needs("copy");
                case ":flags" -> needs("imap4flags");
                case ":count", ":value" -> needs("relational");
                default -> { }
            }
            next();
            switch (tag) {
                case ":flags", ":addresses" -> list(false);
                case ":days" -> take("number");
                case ":subject", ":handle" -> {
                    string();
                    next();
                }
                case ":count", ":value" -> {
                    demand(string().matches("(?i:gt|ge|lt|le|eq|ne)"));
                    next();
                }
                case ":comparator" -> {
                    String name = string().toLowerCase(Locale.ROOT);
                    demand(List.of("i;octet", "i;ascii-casemap", "i;ascii-numeric").contains(name));
                    if (name.equals("i;ascii-numeric")) {
                        needs("comparator-i;ascii-numeric");
                    }
                    next();
                }
                default -> { }
            }
        }
    }

    private void test(int level) throws Fault {
        demand(level <= 8);
        demand(oneOf("header", "address", "envelope", "hasflag", "exists", "size", "allof", "anyof", "not", "true",
            "false"));
        String word = token;
        begin();
        switch (word) {
            case "header", "hasflag" -> tags(":is", ":contains", ":matches", ":count", ":value", ":comparator");
            case "address", "envelope" -> tags(":is", ":contains", ":matches", ":count", ":value", ":comparator",
                ":all", ":localpart", ":domain");
            case "size" -> {
                demand(oneOf(":over", ":under"));
                next();
                take("number");
            }
            case "not" -> test(level + 1);
            case "allof", "anyof" -> {
                is("(");
                do {
                    next();
                    test(level + 1);
                } while (token.equals(","));
                take(")");
            }
            default -> { }
        }
        if (List.of("header", "address", "envelope").contains(word)) {
            list(false);
            list(false);
        } else if (List.of("hasflag", "exists").contains(word)) {
            list(false);
        }
    }
}
