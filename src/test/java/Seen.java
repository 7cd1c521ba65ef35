/** All that can be seen of an object, as a text: objects in the same state have the same text. */
final class Seen {
    private Seen() {
    }

    /** What was told, as far as it can be seen, and what the latest solving left. */
    static String all(PointerClones x) {
        StringBuilder text = new StringBuilder("sizes");
        for (int what = 0; what < 5; what++) {
            text.append(' ').append(x.size(what));
        }
        return text.append(", ").append(solving(x)).toString();
    }

    /** What the latest solving left, and that alone. */
    static String solving(PointerClones x) {
        StringBuilder text = new StringBuilder();
        addContexts(text, x);
        addPoints(text, x);
        text.append(", HOLDS ").append(x.size(3));
        for (int h = 0; h < 8; h++) {
            text.append(' ').append(x.holds(h, 0)).append('/').append(x.holds(h, 1));
        }
        return text.append(", nodes ").append(x.nodes(0)).append(' ').append(x.nodes(1)).toString();
    }

    private static void addContexts(StringBuilder text, PointerClones x) {
        text.append("contexts");
        for (int method = 0; method < 4; method++) {
            text.append(' ').append(x.contexts(method));
        }
        for (int call = 0; call < 8; call++) {
            text.append(", call ").append(call).append(" from ").append(x.context(call, 0));
        }
    }

    private static void addPoints(StringBuilder text, PointerClones x) {
        text.append(", POINTS");
        for (int method = 0; method < 4; method++) {
            int contexts = x.contexts(method);
            for (int v = method * 4; v < method * 4 + 4; v++) {
                for (int c = 0; c < contexts; c++) {
                    text.append(c == 0 ? ' ' : '/').append(x.points(c, v));
                }
            }
        }
    }
}
