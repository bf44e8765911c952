import java.util.HashSet;
import java.util.Set;

/** Promises 3 and 4 for each row of up to three tags behind each command and test. */
public final class TagTest {
    /** Each tag with what must stand behind it. */
    private static final String[] TAGS = {":is", ":contains", ":matches", ":count\"gt\"", ":value\"gt\"",
        ":comparator\"i;octet\"", ":all", ":localpart", ":domain", ":flags\"f\"", ":copy", ":days 1", ":subject\"s\"",
        ":addresses\"a\"", ":handle\"h\"", ":over 1", ":under 1", ":keep", ":tag"};
    private static final String[] MATCH = {":is", ":contains", ":matches", ":count", ":value"};
    private static final String[] PART = {":all", ":localpart", ":domain"};

    public static void main(String[] args) {
        tests();
        commands();
        size();
        Desk.end();
    }

    private static void tests() {
        Desk.sentence("a tag that is there already, or of which another of its group is (:is .. :value; :comparator; "
            + ":all .. :domain), and the last three for header and hasflag");
        rows("if header", "\"a\"\"b\"{}", "match comparator");
        rows("if address", "\"a\"\"b\"{}", "match comparator part");
        rows("if envelope", "\"a\"\"b\"{}", "match comparator part");
        rows("if hasflag", "\"a\"{}", "match comparator");
        Desk.sentence("a token with which no script goes on");
        rows("if exists", "\"a\"{}", "");
        rows("if true", "{}", "");
        rows("if not", " true{}", "");
        rows("if anyof", "(true){}", "");
    }

    private static void commands() {
        Desk.sentence("a tag that is there already");
        rows("keep", ";", "flags");
        rows("fileinto", "\"a\";", "flags copy");
        rows("redirect", "\"a@b\";", "copy");
        rows("vacation", "\"a\";", "days subject addresses handle");
        Desk.sentence("a token with which no script goes on");
        rows("stop", ";", "");
        rows("discard", ";", "");
        rows("reject", "\"a\";", "");
        rows("setflag", "\"a\";", "");
        rows("addflag", "\"a\";", "");
        rows("removeflag", "\"a\";", "");
        rows("if", " true{}", "");
    }

    private static void size() {
        Desk.sentence("'size' (':over' | ':under') number");
        for (String tag : TAGS) {
            boolean right = tag.equals(":over 1") || tag.equals(":under 1");
            Desk.read("if size" + (right ? "" : "<!>") + tag + "{}");
            Desk.read("if size:over<!>" + tag + "{}");
            Desk.read("if size:under 1<!>" + tag + "{}");
        }
    }

    private static String group(String tag) {
        for (String match : MATCH) {
            if (tag.startsWith(match)) {
                return "match";
            }
        }
        for (String part : PART) {
            if (tag.equals(part)) {
                return "part";
            }
        }
        return tag.split("[ \"]")[0].substring(1);
    }

    /** All rows of no tag up to three; groups are those of which one tag may stand here. */
    private static void rows(String word, String tail, String groups) {
        Desk.read(Desk.ALL + word + tail);
        for (String one : TAGS) {
            row(word, tail, groups, one);
            for (String two : TAGS) {
                row(word, tail, groups, one, two);
                for (String three : TAGS) {
                    row(word, tail, groups, one, two, three);
                }
            }
        }
    }

    private static void row(String word, String tail, String groups, String... tags) {
        Set<String> open = new HashSet<>(Set.of(groups.split(" ")));
        StringBuilder script = new StringBuilder(Desk.ALL).append(word);
        boolean right = true;
        for (String tag : tags) {
            boolean goesOn = open.remove(group(tag));
            script.append(right && !goesOn ? Desk.FAULT : "").append(tag);
            right &= goesOn;
        }
        Desk.read(script.append(tail).toString());
    }
}
