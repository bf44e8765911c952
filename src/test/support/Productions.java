import java.util.ArrayDeque;
import java.util.ArrayList;
import java.util.HashMap;
import java.util.LinkedHashMap;
import java.util.LinkedHashSet;
import java.util.List;
import java.util.Map;
import java.util.Set;
import java.util.regex.Matcher;
import java.util.regex.Pattern;

/**
 * Reads productions as they are written in the document, and follows a row of tokens through all the
 * ways that they leave open. Knows nothing of what the words mean.
 */
final class Productions {
    private static final Pattern SYMBOL = Pattern.compile("'[^']*'|[a-z]+:?|[()|*.\\[\\]]");

    /** A way to go on: the items that are due, the next one first; null if none is. */
    private record Way(Item item, Way rest) { }

    /** By its kind: t a token, n a name, r a row of parts, | a choice of them, * any number of the one. */
    private record Item(char kind, String text, List<Item> parts) { }

    private final Map<String, Item> named = new HashMap<>();
    private final ArrayDeque<String> symbols = new ArrayDeque<>();
    /** The tokens that can be next ("" is the end), each with the ways to go on behind it. */
    private Map<String, Set<Way>> open = new LinkedHashMap<>();

    Productions(String text) {
        Matcher m = SYMBOL.matcher(text);
        while (m.find()) {
            symbols.add(m.group());
        }
        while (!symbols.isEmpty()) {
            String name = symbols.poll();
            named.put(name.substring(0, name.length() - 1), choice());
            symbols.poll();
        }
    }

    private Item choice() {
        List<Item> ways = new ArrayList<>(List.of(row()));
        while ("|".equals(symbols.peek())) {
            symbols.poll();
            ways.add(row());
        }
        return new Item('|', "", ways);
    }

    private Item row() {
        List<Item> parts = new ArrayList<>();
        while (!symbols.isEmpty() && !"|)].".contains(symbols.peek())) {
            String symbol = symbols.poll();
            Item part;
            if (symbol.equals("(") || symbol.equals("[")) {
                part = choice();
                symbols.poll();
                if (symbol.equals("[")) {
                    part.parts().add(new Item('r', "", List.of()));
                }
            } else if (symbol.startsWith("'")) {
                part = new Item('t', symbol.substring(1, symbol.length() - 1), List.of());
            } else {
                part = new Item('n', symbol, List.of());
            }
            if ("*".equals(symbols.peek())) {
                symbols.poll();
                part = new Item('*', "", List.of(part));
            }
            parts.add(part);
        }
        return new Item('r', "", parts);
    }

    /** Begins a new row of tokens. */
    void begin(String name) {
        open = new LinkedHashMap<>();
        walk(new Way(new Item('n', name, List.of()), null));
    }

    /** The tokens with which the row can go on; "" is its end. */
    List<String> next() {
        return new ArrayList<>(open.keySet());
    }

    /** Goes on with the token, which is one of those that can be next. */
    void take(String token) {
        Set<Way> taken = open.get(token);
        open = new LinkedHashMap<>();
        for (Way way : taken) {
            walk(way);
        }
    }

    /** Goes ahead to the tokens that are wanted first on each way. */
    private void walk(Way way) {
        if (way == null) {
            wants("", null);
            return;
        }
        Item item = way.item();
        switch (item.kind()) {
            case 't' -> wants(item.text(), way.rest());
            case 'n' -> {
                if (named.containsKey(item.text())) {
                    walk(new Way(named.get(item.text()), way.rest()));
                } else {
                    wants(item.text(), way.rest());
                }
            }
            case 'r' -> {
                Way rest = way.rest();
                for (int i = item.parts().size() - 1; i >= 0; i--) {
                    rest = new Way(item.parts().get(i), rest);
                }
                walk(rest);
            }
            case '|' -> {
                for (Item one : item.parts()) {
                    walk(new Way(one, way.rest()));
                }
            }
            default -> {
                walk(way.rest());
                walk(new Way(item.parts().get(0), way));
            }
        }
    }

    private void wants(String token, Way behind) {
        open.computeIfAbsent(token, x -> new LinkedHashSet<>()).add(behind);
    }
}
