/**
 * Scripts that sort mail, read by their productions: whether one is right, and where the first
 * fault is.
 *
 * <p>A check goes in two passes: Tokens cuts the script into tokens up to the first byte at which
 * none stands, and Grammar reads these by the productions that Word tells. Every fault is at the
 * token that is being looked at, so the first one found is the first one from the left.
 */
public final class SieveDesk {
    private static final int MOST_BYTES = 400;
    private static final int MOST_PUT = 8;
    /** Each token has a byte of its own, and the script's end is one more. */
    private static final int MOST_TOKENS = MOST_BYTES + 1;
    private static final int MOST_QUOTED = 200;
    private static final long MOST_NUMBER = 2147483647L;
    private static final int MOST_MAILBOX = 20;
    private static final int MOST_LOCAL = 40;
    private static final int MOST_DOMAIN = 60;

    private static final int MOST_LISTED = 10;
    private static final int MOST_STRINGS = 60;
    private static final int MOST_THINGS = 40;
    private static final int MOST_BLOCKS = 8;
    private static final int MOST_TESTS = 8;
    /** Some six symbols for each of eight blocks and eight tests, and room to spare. */
    private static final int MOST_DUE = 200;
    /** A token brings at most eight symbols, so no script needs half of this. */
    private static final int MOST_STEPS = 10000;

    private static final int TAB = 9;
    private static final int LINE_FEED = 10;
    private static final int RETURN = 13;
    private static final String SIGNS = ";,()[]{}";
    private static final String TEXT = "text";
    private static final String LOCAL_SIGNS = "!#$%&'*+-/=?^_`{|}~";
    private static final String DOMAIN_SIGNS = "-";

    /** The kinds of tokens; a sign's kind is its own byte, and all of those are greater. */
    private static final int WORD = 1;
    private static final int TAG = 2;
    private static final int NUMBER = 3;
    private static final int STRING = 4;
    private static final int END = 5;
    private static final int BAD = 6;

    /** What a script can require: the bits that count(3) answers. */
    private static final int EXT_FILEINTO = 1;
    private static final int EXT_REJECT = 2;
    private static final int EXT_ENVELOPE = 4;
    private static final int EXT_COPY = 8;
    private static final int EXT_FLAGS = 16;
    private static final int EXT_RELATIONAL = 32;
    private static final int EXT_VACATION = 64;
    private static final int EXT_NUMERIC = 128;
    private static final int EXT_EACH = 255;

    /** What else a string says, as bits beside those of what can be required. */
    private static final int SAYS_ANYTHING = 256;
    private static final int SAYS_ORDER = 512;
    private static final int SAYS_COMPARATOR = 1024;
    private static final int SAYS_NUMERIC = 2048;
    private static final int SAYS_MAILBOX = 4096;
    private static final int SAYS_ADDRESS = 8192;

    /** Groups of tags: of each, one may be there. */
    private static final int GROUP_MATCH = 1;
    private static final int GROUP_COMPARATOR = 2;
    private static final int GROUP_PART = 4;
    private static final int GROUP_FLAGS = 8;
    private static final int GROUP_COPY = 16;
    private static final int GROUP_DAYS = 32;
    private static final int GROUP_SUBJECT = 64;
    private static final int GROUP_ADDRESSES = 128;
    private static final int GROUP_HANDLE = 256;
    private static final int GROUPS_HOW = GROUP_MATCH | GROUP_COMPARATOR;
    private static final int GROUPS_HOW_PART = GROUPS_HOW | GROUP_PART;
    private static final int GROUPS_FILEINTO = GROUP_FLAGS | GROUP_COPY;
    private static final int GROUPS_VACATION = GROUP_DAYS | GROUP_SUBJECT | GROUP_ADDRESSES | GROUP_HANDLE;

    private static final int ROLE_NONE = 0;
    private static final int ROLE_COMMAND = 1;
    private static final int ROLE_TEST = 2;
    private static final int ROLE_TAG = 3;

    private static final int NO_FAULT = -1;

    private final byte[] script;
    private final Tokens tokens;
    private final Grammar grammar;
    private int length;
    private int faultPlace;

    public SieveDesk() {
        script = new byte[MOST_BYTES];
        tokens = new Tokens(script);
        grammar = new Grammar(tokens);
        length = 0;
        faultPlace = NO_FAULT;
    }

    public boolean put(long v, int n) {
        if (n < 1 || n > MOST_PUT || n > MOST_BYTES - length) {
            return false;
        }
        for (int i = n - 1; i >= 0; i--) {
            script[length] = (byte) (v >>> (8 * i));
            length++;
        }
        return true;
    }

    public int check() {
        tokens.scan(length);
        boolean right = grammar.reads();
        faultPlace = right ? NO_FAULT : grammar.standsAt();
        int line = right ? 0 : lineOf(faultPlace);
        length = 0;
        return line;
    }

    public int place() {
        return faultPlace;
    }

    public int count(int what) {
        switch (what) {
            case 0:
                return length;
            case 1:
                return grammar.things;
            case 2:
                return grammar.strings;
            case 3:
                return grammar.required;
            default:
                return -1;
        }
    }

    private int lineOf(int place) {
        int line = 1;
        for (int i = 0; i < place && i < script.length; i++) {
            if (script[i] == LINE_FEED) {
                line++;
            }
        }
        return line;
    }

    private static boolean isLetter(int b) {
        return (b >= 'a' && b <= 'z') || (b >= 'A' && b <= 'Z');
    }

    private static boolean isDigit(int b) {
        return b >= '0' && b <= '9';
    }

    private static boolean startsWord(int b) {
        return b == '_' || isLetter(b);
    }

    private static boolean goesOnWord(int b) {
        return b == '_' || isLetter(b) || isDigit(b);
    }

    /** Whether the bytes from .. to - 1 are the name, which is in small letters, but for case. */
    private static boolean same(byte[] bytes, int from, int to, String name) {
        if (from < 0 || to > bytes.length || to - from != name.length()) {
            return false;
        }
        for (int i = 0; i < name.length(); i++) {
            int b = bytes[from + i] & 255;
            int small = isLetter(b) ? b | 32 : b;
            if (small != name.charAt(i)) {
                return false;
            }
        }
        return true;
    }

    /**
     * The words of the language, and the productions that go on behind them. In a production a sign
     * stands for itself; the other symbols:
     * q ('require' strings ';')*, c command*, t test, v the end of a test, m (',' test)*,
     * e what goes on behind the block of an if, g tags, d :over or :under, n number,
     * s string, o one that tells an order, k a comparator, f a mailbox, a an ADDRESS,
     * l strings, r strings that can be required, . the script's end.
     */
    private enum Word {
        NONE("", ROLE_NONE, 0, 0, ""),
        REQUIRE("require", ROLE_NONE, 0, 0, "r;q"),
        ELSIF("elsif", ROLE_NONE, 0, 0, "t{c}e"),
        ELSE("else", ROLE_NONE, 0, 0, "{c}"),

        IF("if", ROLE_COMMAND, 0, 0, "t{c}e"),
        STOP("stop", ROLE_COMMAND, 0, 0, ";"),
        DISCARD("discard", ROLE_COMMAND, 0, 0, ";"),
        KEEP("keep", ROLE_COMMAND, 0, GROUP_FLAGS, "g;"),
        FILEINTO("fileinto", ROLE_COMMAND, EXT_FILEINTO, GROUPS_FILEINTO, "gf;"),
        REDIRECT("redirect", ROLE_COMMAND, 0, GROUP_COPY, "ga;"),
        REJECT("reject", ROLE_COMMAND, EXT_REJECT, 0, "s;"),
        SETFLAG("setflag", ROLE_COMMAND, EXT_FLAGS, 0, "l;"),
        ADDFLAG("addflag", ROLE_COMMAND, EXT_FLAGS, 0, "l;"),
        REMOVEFLAG("removeflag", ROLE_COMMAND, EXT_FLAGS, 0, "l;"),
        VACATION("vacation", ROLE_COMMAND, EXT_VACATION, GROUPS_VACATION, "gs;"),

        HEADER("header", ROLE_TEST, 0, GROUPS_HOW, "gll"),
        ADDRESS("address", ROLE_TEST, 0, GROUPS_HOW_PART, "gll"),
        ENVELOPE("envelope", ROLE_TEST, EXT_ENVELOPE, GROUPS_HOW_PART, "gll"),
        HASFLAG("hasflag", ROLE_TEST, EXT_FLAGS, GROUPS_HOW, "gl"),
        EXISTS("exists", ROLE_TEST, 0, 0, "l"),
        SIZE("size", ROLE_TEST, 0, 0, "dn"),
        ALLOF("allof", ROLE_TEST, 0, 0, "(tm)"),
        ANYOF("anyof", ROLE_TEST, 0, 0, "(tm)"),
        NOT("not", ROLE_TEST, 0, 0, "t"),
        TRUE("true", ROLE_TEST, 0, 0, ""),
        FALSE("false", ROLE_TEST, 0, 0, ""),

        IS("is", ROLE_TAG, 0, GROUP_MATCH, ""),
        CONTAINS("contains", ROLE_TAG, 0, GROUP_MATCH, ""),
        MATCHES("matches", ROLE_TAG, 0, GROUP_MATCH, ""),
        COUNT("count", ROLE_TAG, EXT_RELATIONAL, GROUP_MATCH, "o"),
        VALUE("value", ROLE_TAG, EXT_RELATIONAL, GROUP_MATCH, "o"),
        COMPARATOR("comparator", ROLE_TAG, 0, GROUP_COMPARATOR, "k"),
        ALL("all", ROLE_TAG, 0, GROUP_PART, ""),
        LOCALPART("localpart", ROLE_TAG, 0, GROUP_PART, ""),
        DOMAIN("domain", ROLE_TAG, 0, GROUP_PART, ""),
        FLAGS("flags", ROLE_TAG, EXT_FLAGS, GROUP_FLAGS, "l"),
        COPY("copy", ROLE_TAG, EXT_COPY, GROUP_COPY, ""),
        DAYS("days", ROLE_TAG, 0, GROUP_DAYS, "n"),
        SUBJECT("subject", ROLE_TAG, 0, GROUP_SUBJECT, "s"),
        ADDRESSES("addresses", ROLE_TAG, 0, GROUP_ADDRESSES, "l"),
        HANDLE("handle", ROLE_TAG, 0, GROUP_HANDLE, "s"),
        OVER("over", ROLE_TAG, 0, 0, ""),
        UNDER("under", ROLE_TAG, 0, 0, "");

        private static final Word[] EACH = values();

        private final String spelling;
        private final int role;
        /** What must have been required, or 0. */
        private final int needs;
        /** The groups of tags that a command or test takes; the one group of a tag. */
        private final int groups;
        private final String production;

        Word(String spelling, int role, int needs, int groups, String production) {
            this.spelling = spelling;
            this.role = role;
            this.needs = needs;
            this.groups = groups;
            this.production = production;
        }

        private static Word spelled(byte[] bytes, int from, int to) {
            for (int i = 0; i < EACH.length; i++) {
                if (same(bytes, from, to, EACH[i].spelling)) {
                    return EACH[i];
                }
            }
            return NONE;
        }
    }

    /** The strings that are asked for by name. */
    private enum Name {
        FILEINTO("fileinto", EXT_FILEINTO),
        REJECT("reject", EXT_REJECT),
        ENVELOPE("envelope", EXT_ENVELOPE),
        COPY("copy", EXT_COPY),
        IMAP4FLAGS("imap4flags", EXT_FLAGS),
        RELATIONAL("relational", EXT_RELATIONAL),
        VACATION("vacation", EXT_VACATION),
        COMPARATOR_NUMERIC("comparator-i;ascii-numeric", EXT_NUMERIC),
        GT("gt", SAYS_ORDER),
        GE("ge", SAYS_ORDER),
        LT("lt", SAYS_ORDER),
        LE("le", SAYS_ORDER),
        EQ("eq", SAYS_ORDER),
        NE("ne", SAYS_ORDER),
        OCTET("i;octet", SAYS_COMPARATOR),
        CASEMAP("i;ascii-casemap", SAYS_COMPARATOR),
        NUMERIC("i;ascii-numeric", SAYS_NUMERIC);

        private static final Name[] EACH = values();

        private final String spelling;
        private final int says;

        Name(String spelling, int says) {
            this.spelling = spelling;
            this.says = says;
        }
    }

    /** What stands in a quoted string, and which of the asked for things that is. */
    private static final class Quoted {
        private final byte[] bytes;
        private int length;

        Quoted() {
            bytes = new byte[MOST_QUOTED];
            length = 0;
        }

        private void empty() {
            length = 0;
        }

        /** False if there is no room left. */
        private boolean add(int b) {
            if (length >= bytes.length) {
                return false;
            }
            bytes[length] = (byte) b;
            length++;
            return true;
        }

        private int says() {
            int says = SAYS_ANYTHING;
            if (isMailbox()) {
                says |= SAYS_MAILBOX;
            }
            if (isAddress()) {
                says |= SAYS_ADDRESS;
            }
            for (int i = 0; i < Name.EACH.length; i++) {
                if (same(bytes, 0, length, Name.EACH[i].spelling)) {
                    says |= Name.EACH[i].says;
                }
            }
            return says;
        }

        private boolean isMailbox() {
            if (length < 1 || length > MOST_MAILBOX) {
                return false;
            }
            for (int i = 0; i < length && i < bytes.length; i++) {
                if (bytes[i] < 32 || bytes[i] > 126 || bytes[i] == '"') {
                    return false;
                }
            }
            return true;
        }

        private boolean isAddress() {
            int sign = 0;
            while (sign < length && sign < bytes.length && bytes[sign] != '@') {
                sign++;
            }
            return sign < length
                && isDotted(0, sign, MOST_LOCAL, LOCAL_SIGNS)
                && isDotted(sign + 1, length, MOST_DOMAIN, DOMAIN_SIGNS);
        }

        /** Letters, digits and these signs, with single dots between them alone. */
        private boolean isDotted(int from, int to, int most, String signs) {
            if (from < 0 || to > bytes.length || to - from < 1 || to - from > most) {
                return false;
            }
            // The edges count as dots, so a dot beside one is a second one.
            boolean behindDot = true;
            for (int i = from; i < to; i++) {
                int b = bytes[i] & 255;
                boolean dot = b == '.';
                if (dot && behindDot) {
                    return false;
                }
                if (!dot && !isLetter(b) && !isDigit(b) && signs.indexOf((char) b) < 0) {
                    return false;
                }
                behindDot = dot;
            }
            return !behindDot;
        }
    }

    /** The script's tokens up to its end, or up to the first byte at which none stands. */
    private static final class Tokens {
        private final byte[] script;
        private final int[] kinds;
        private final int[] starts;
        private final Word[] words;
        private final int[] says;
        private final Quoted quoted;
        private int many;
        private int length;
        private int at;

        Tokens(byte[] script) {
            this.script = script;
            kinds = new int[MOST_TOKENS];
            starts = new int[MOST_TOKENS];
            words = new Word[MOST_TOKENS];
            says = new int[MOST_TOKENS];
            quoted = new Quoted();
            many = 0;
            length = 0;
            at = 0;
        }

        private void scan(int scriptLength) {
            many = 0;
            length = scriptLength;
            at = 0;
            for (int turn = 0; turn < MOST_TOKENS; turn++) {
                skipGap();
                if (at >= length) {
                    add(END, Word.NONE, 0, at);
                    return;
                }
                if (!scanToken()) {
                    add(BAD, Word.NONE, 0, at);
                    return;
                }
            }
        }

        /** Notes the token that starts here; the next one is looked for from its end on. */
        private void add(int kind, Word word, int saying, int end) {
            if (many < MOST_TOKENS) {
                kinds[many] = kind;
                starts[many] = at;
                words[many] = word;
                says[many] = saying;
                many++;
            }
            at = end;
        }

        /** The byte there, or -1 outside of the script. */
        private int byteAt(int i) {
            return i >= 0 && i < length && i < script.length ? script[i] & 255 : -1;
        }

        /** A comment without an end is left where it is: no token begins as it does. */
        private void skipGap() {
            for (int turn = 0; turn < MOST_BYTES && at < length; turn++) {
                int b = byteAt(at);
                if (b == ' ' || b == TAB || b == LINE_FEED || b == RETURN) {
                    at++;
                } else if (b == '#') {
                    int next = behindLine(at);
                    at = next < 0 ? length : next;
                } else if (b == '/' && byteAt(at + 1) == '*') {
                    int next = behindComment(at + 2);
                    if (next < 0) {
                        return;
                    }
                    at = next;
                } else {
                    return;
                }
            }
        }

        private int behindComment(int from) {
            for (int i = from; i < length; i++) {
                if (byteAt(i) == '*' && byteAt(i + 1) == '/') {
                    return i + 2;
                }
            }
            return -1;
        }

        /** Behind the next line feed, or -1. */
        private int behindLine(int from) {
            for (int i = from; i < length; i++) {
                if (byteAt(i) == LINE_FEED) {
                    return i + 1;
                }
            }
            return -1;
        }

        /** Behind the line's end that stands right here, or -1. */
        private int behindLineEnd(int i) {
            if (byteAt(i) == LINE_FEED) {
                return i + 1;
            }
            return byteAt(i) == RETURN && byteAt(i + 1) == LINE_FEED ? i + 2 : -1;
        }

        private boolean scanToken() {
            int first = byteAt(at);
            if (startsWord(first)) {
                return scanWord();
            }
            if (first == ':') {
                return scanTag();
            }
            if (isDigit(first)) {
                return scanNumber();
            }
            if (first == '"') {
                return scanQuoted();
            }
            if (first < 0 || SIGNS.indexOf((char) first) < 0) {
                return false;
            }
            add(first, Word.NONE, 0, at + 1);
            return true;
        }

        private int wordEnd(int from) {
            int end = from;
            while (end < length && goesOnWord(byteAt(end))) {
                end++;
            }
            return end;
        }

        private boolean scanWord() {
            int end = wordEnd(at);
            if (byteAt(end) == ':' && same(script, at, end, TEXT)) {
                return scanText(end + 1);
            }
            add(WORD, Word.spelled(script, at, end), 0, end);
            return true;
        }

        private boolean scanTag() {
            if (!startsWord(byteAt(at + 1))) {
                return false;
            }
            int end = wordEnd(at + 1);
            add(TAG, Word.spelled(script, at + 1, end), 0, end);
            return true;
        }

        private boolean scanNumber() {
            long value = 0;
            int end = at;
            while (end < length && isDigit(byteAt(end))) {
                // Held just above the limit, so that no row of digits wraps around.
                value = Math.min(value * 10 + byteAt(end) - '0', MOST_NUMBER + 1);
                end++;
            }
            int shift = shiftOf(byteAt(end));
            if (shift > 0) {
                end++;
            }
            if ((value << shift) > MOST_NUMBER || goesOnWord(byteAt(end))) {
                return false;
            }
            add(NUMBER, Word.NONE, 0, end);
            return true;
        }

        private static int shiftOf(int b) {
            switch (b) {
                case 'K':
                case 'k':
                    return 10;
                case 'M':
                case 'm':
                    return 20;
                case 'G':
                case 'g':
                    return 30;
                default:
                    return 0;
            }
        }

        private boolean scanQuoted() {
            quoted.empty();
            for (int i = at + 1; i < length; i++) {
                int b = byteAt(i);
                if (b == '"') {
                    add(STRING, Word.NONE, quoted.says(), i + 1);
                    return true;
                }
                if (b == '\\') {
                    i++;
                    b = byteAt(i);
                }
                if (b < 0 || !quoted.add(b)) {
                    return false;
                }
            }
            return false;
        }

        /**
         * What the lines say is not kept: each brings its line feed along, so they are never a
         * thing that is asked for; and 1000 bytes do not go into a script.
         */
        private boolean scanText(int behindColon) {
            int i = behindColon;
            while (i < length && (byteAt(i) == ' ' || byteAt(i) == TAB)) {
                i++;
            }
            int line = behindLineEnd(i);
            for (int turn = 0; turn < MOST_BYTES && line >= 0; turn++) {
                int end = byteAt(line) == '.' ? behindLineEnd(line + 1) : -1;
                if (end >= 0) {
                    add(STRING, Word.NONE, SAYS_ANYTHING, end);
                    return true;
                }
                line = behindLine(line);
            }
            return false;
        }
    }

    /**
     * Reads the tokens by the productions. The symbols that are still due lie on a stack, the next
     * one on top. A method that answers false has found a fault at the token that is looked at.
     */
    private static final class Grammar {
        private final Tokens tokens;
        private final char[] due;
        private int manyDue;

        private int at;
        private int kind;
        /** The word, if the token is one. */
        private Word word;
        /** The tag's word, if the token is a tag. */
        private Word tag;
        private int says;

        private int things;
        private int strings;
        private int required;
        private int blocks;
        private int tests;
        /** The groups of tags of which none has been there yet. */
        private int openGroups;

        Grammar(Tokens tokens) {
            this.tokens = tokens;
            due = new char[MOST_DUE];
            word = Word.NONE;
            tag = Word.NONE;
        }

        private boolean reads() {
            things = 0;
            strings = 0;
            required = 0;
            blocks = 0;
            tests = 0;
            openGroups = 0;
            manyDue = 0;
            at = -1;
            advance();
            expect("qc.");
            for (int step = 0; step < MOST_STEPS && manyDue > 0; step++) {
                manyDue--;
                if (!take(due[manyDue])) {
                    return false;
                }
            }
            return manyDue == 0;
        }

        /** Where the token stands that is looked at. */
        private int standsAt() {
            return at >= 0 && at < MOST_TOKENS ? tokens.starts[at] : 0;
        }

        private void advance() {
            if (at + 1 >= tokens.many || at + 1 >= MOST_TOKENS) {
                return;
            }
            at++;
            kind = tokens.kinds[at];
            Word spelled = tokens.words[at];
            word = kind == WORD && spelled != null ? spelled : Word.NONE;
            tag = kind == TAG && spelled != null ? spelled : Word.NONE;
            says = tokens.says[at];
        }

        /** Puts the symbols on the stack, the first one on top. */
        private void expect(String symbols) {
            for (int i = symbols.length() - 1; i >= 0; i--) {
                if (manyDue < due.length) {
                    due[manyDue] = symbols.charAt(i);
                    manyDue++;
                }
            }
        }

        private boolean take(char symbol) {
            switch (symbol) {
                case 'q':
                    return word != Word.REQUIRE || follow(word);
                case 'c':
                    return takeCommands();
                case 't':
                    return takeTest();
                case 'v':
                    tests--;
                    return true;
                case 'm':
                    return takeMoreTests();
                case 'e':
                    return (word != Word.ELSIF && word != Word.ELSE) || follow(word);
                case 'g':
                    return takeTags();
                case 'd':
                    return (tag == Word.OVER || tag == Word.UNDER) && follow(tag);
                case 'n':
                    return takeKind(NUMBER);
                case 's':
                    return takeString(SAYS_ANYTHING);
                case 'o':
                    return takeString(SAYS_ORDER);
                case 'k':
                    return takeString(lacks(EXT_NUMERIC) ? SAYS_COMPARATOR : SAYS_COMPARATOR | SAYS_NUMERIC);
                case 'f':
                    return takeString(SAYS_MAILBOX);
                case 'a':
                    return takeString(SAYS_ADDRESS);
                case 'l':
                    return takeStrings(SAYS_ANYTHING);
                case 'r':
                    return takeStrings(EXT_EACH);
                case '.':
                    return kind == END;
                default:
                    return takeSign(symbol);
            }
        }

        private boolean lacks(int needs) {
            return (required & needs) != needs;
        }

        private boolean follow(Word taken) {
            expect(taken.production);
            advance();
            return true;
        }

        /** A command's or test's word: counted, and its production is due. */
        private boolean begin() {
            if (things >= MOST_THINGS || lacks(word.needs)) {
                return false;
            }
            things++;
            openGroups = word.groups;
            return follow(word);
        }

        private boolean takeCommands() {
            if (word.role != ROLE_COMMAND) {
                // Whether it may stand here is for the symbol that is due next to tell.
                return true;
            }
            // An if in the last block could have no block of its own: no script goes on with it.
            if (word == Word.IF && blocks >= MOST_BLOCKS) {
                return false;
            }
            expect("c");
            return begin();
        }

        private boolean takeTest() {
            if (word.role != ROLE_TEST || tests >= MOST_TESTS) {
                return false;
            }
            tests++;
            expect("v");
            return begin();
        }

        private boolean takeMoreTests() {
            if (kind != ',') {
                return true;
            }
            advance();
            expect("tm");
            return true;
        }

        private boolean takeTags() {
            if (kind != TAG) {
                return true;
            }
            if (tag.role != ROLE_TAG || (tag.groups & openGroups) == 0 || lacks(tag.needs)) {
                return false;
            }
            openGroups &= ~tag.groups;
            expect("g");
            return follow(tag);
        }

        private boolean takeStrings(int wanted) {
            if (kind != '[') {
                return takeString(wanted);
            }
            advance();
            for (int listed = 0; listed < MOST_LISTED; listed++) {
                if (!takeString(wanted)) {
                    return false;
                }
                if (kind != ',') {
                    return takeKind(']');
                }
                advance();
            }
            return false;
        }

        /** A string that says one of the wanted things; it counts even if it does not. */
        private boolean takeString(int wanted) {
            if (kind != STRING || strings >= MOST_STRINGS) {
                return false;
            }
            strings++;
            if ((says & wanted) == 0) {
                return false;
            }
            if (wanted == EXT_EACH) {
                required |= says & EXT_EACH;
            }
            advance();
            return true;
        }

        private boolean takeKind(int wanted) {
            if (kind != wanted) {
                return false;
            }
            advance();
            return true;
        }

        private boolean takeSign(char sign) {
            if (!takeKind(sign)) {
                return false;
            }
            if (sign == '{') {
                blocks++;
            } else if (sign == '}') {
                blocks--;
            }
            return true;
        }
    }
}
