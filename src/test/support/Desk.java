import java.nio.charset.StandardCharsets;

/** A SieveDesk that is given whole texts, and a tally of the answers that are not as due. */
final class Desk {
    /** Stands in a script right before the token that is at fault. */
    static final String FAULT = "<!>";
    /** Requires all that can be required; eight strings. */
    static final String ALL = "require[\"fileinto\",\"reject\",\"envelope\",\"copy\",\"imap4flags\","
        + "\"relational\",\"vacation\",\"comparator-i;ascii-numeric\"];";

    private static String sentence = "";
    private static int wrong = 0;
    private static int asked = 0;

    private Desk() {
    }

    /** The document's words that the calls behind this are for; told with a wrong answer. */
    static void sentence(String words) {
        sentence = "[" + words + "] ";
    }

    static void due(String call, long got, long want) {
        asked++;
        if (got != want) {
            wrong++;
            System.out.println(sentence + call + " answered " + got + ", due is " + want);
        }
    }

    static void due(String call, boolean got, boolean want) {
        due(call, got ? 1 : 0, want ? 1 : 0);
    }

    /** Ends the test: exit code 1 if an answer was not as due. */
    static void end() {
        System.out.println(wrong == 0 ? asked + " answers are as due" : wrong + " answers are not as due");
        if (wrong != 0) {
            System.exit(1);
        }
    }

    /** Puts the text, a character a byte, eight at a time; the answer is whether all went in. */
    static boolean put(SieveDesk desk, String text) {
        byte[] bytes = text.getBytes(StandardCharsets.ISO_8859_1);
        boolean all = true;
        for (int from = 0; from < bytes.length; from += 8) {
            int n = Math.min(8, bytes.length - from);
            long v = 0;
            for (int i = 0; i < n; i++) {
                v = v << 8 | bytes[from + i] & 255;
            }
            all &= desk.put(v, n);
        }
        return all;
    }

    /** Checks the script on a new object, where the mark tells the fault; the object is answered. */
    static SieveDesk read(String marked) {
        int place = marked.indexOf(FAULT);
        String script = marked.replace(FAULT, "");
        String shown = "\"" + marked.replace("\r", "\\r").replace("\n", "\\n") + "\": ";
        SieveDesk desk = new SieveDesk();
        due(shown + "put", put(desk, script), true);
        due(shown + "count(0)", desk.count(0), script.length());
        int line = place < 0 ? 0 : 1 + (int) script.substring(0, place).chars().filter(c -> c == 10).count();
        due(shown + "check()", desk.check(), line);
        due(shown + "place()", desk.place(), place);
        due(shown + "count(0) behind check()", desk.count(0), 0);
        return desk;
    }

    /** As read, and the counts of commands and tests, strings, and what was required. */
    static void read(String marked, int things, int strings, int required) {
        SieveDesk desk = read(marked);
        due(marked + ": count(1)", desk.count(1), things);
        due(marked + ": count(2)", desk.count(2), strings);
        due(marked + ": count(3)", desk.count(3), required);
    }

    /** The last script that is still right, and the first that is not, with its fault marked. */
    static void edge(String right, String wrongOne) {
        due(right + ": has no mark", right.contains(FAULT), false);
        due(wrongOne + ": has a mark", wrongOne.contains(FAULT), true);
        read(right);
        read(wrongOne);
    }

    /** A list of as many strings, each of them with these bytes. */
    static String list(int many, String said) {
        StringBuilder list = new StringBuilder("[");
        for (int i = 0; i < many; i++) {
            list.append(i == 0 ? "" : ",").append('"').append(said).append('"');
        }
        return list.append("]").toString();
    }

    /** Reads each of the scripts. */
    static void readEach(String... marked) {
        for (String one : marked) {
            read(one);
        }
    }
}
