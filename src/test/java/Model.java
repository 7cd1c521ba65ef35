import java.util.ArrayList;
import java.util.HashMap;
import java.util.HashSet;
import java.util.List;
import java.util.Map;
import java.util.Set;

/**
 * The document again, written as slowly and literally as can be: relations are sets of rows, rules
 * are tried on all rows, a diagram's functions are texts of all their values.
 */
final class Model {
    private static final int BAD = -1;
    private static final int FULL = -2;
    private static final int TOO_MANY = -3;
    private static final int[][] STANDING = {
        {0, 1, 2}, {0, 2, 1}, {1, 0, 2}, {1, 2, 0}, {2, 0, 1}, {2, 1, 0}
    };

    private record Statement(char form, int v, int w, int f) {
    }

    private record Pass(int v, int w, boolean back) {
    }

    private record Call(int calling, int called, List<Pass> passes) {
    }

    private record Row(int first, int second, int third) {
    }

    private final Map<Integer, Integer> kinds = new HashMap<>();
    private final Map<Integer, Integer> accepted = new HashMap<>();
    private final List<Statement> statements = new ArrayList<>();
    private final List<Call> calls = new ArrayList<>();
    private int orderNow = 0;

    private Set<Row> pointsRows = new HashSet<>();
    private Set<Row> holdsRows = new HashSet<>();
    private int[] counts = {1, 1, 1, 1};
    private List<List<Integer>> contextsByCall = new ArrayList<>();

    private static boolean variable(int v) {
        return 0 <= v && v <= 15;
    }

    private static boolean object(int h) {
        return 0 <= h && h <= 7;
    }

    private static boolean method(int m) {
        return 0 <= m && m <= 3;
    }

    boolean kind(int h, int kind) {
        if (!object(h) || kind < 0 || kind > 3) {
            return false;
        }
        kinds.put(h, kind);
        return true;
    }

    boolean accept(int v, int set) {
        if (!variable(v) || set < 0 || set > 15) {
            return false;
        }
        accepted.put(v, set);
        return true;
    }

    private int add(boolean good, Statement statement) {
        if (!good) {
            return BAD;
        }
        if (statements.size() == 40) {
            return FULL;
        }
        statements.add(statement);
        return statements.size();
    }

    int make(int v, int h) {
        return add(variable(v) && object(h), new Statement('N', v, h, 0));
    }

    int copy(int v, int w) {
        return add(variable(v) && variable(w) && v / 4 == w / 4, new Statement('C', v, w, 0));
    }

    int store(int v, int f, int w) {
        boolean good = variable(v) && variable(w) && v / 4 == w / 4 && (f == 0 || f == 1);
        return add(good, new Statement('S', v, w, f));
    }

    int load(int v, int w, int f) {
        boolean good = variable(v) && variable(w) && v / 4 == w / 4 && (f == 0 || f == 1);
        return add(good, new Statement('L', v, w, f));
    }

    int call(int calling, int called) {
        if (!method(calling) || !method(called)) {
            return BAD;
        }
        if (calls.size() == 8) {
            return FULL;
        }
        calls.add(new Call(calling, called, new ArrayList<>()));
        return calls.size() - 1;
    }

    int pass(int call, int v, int w, boolean back) {
        if (call < 0 || call >= calls.size() || !variable(v) || !variable(w)) {
            return BAD;
        }
        Call by = calls.get(call);
        int source = back ? by.called : by.calling;
        int target = back ? by.calling : by.called;
        if (w / 4 != source || v / 4 != target) {
            return BAD;
        }
        if (by.passes.size() == 4) {
            return FULL;
        }
        by.passes.add(new Pass(v, w, back));
        return by.passes.size();
    }

    /** Follows calls, at most one through each method. */
    private boolean reaches(int from, int to, Set<Integer> seen) {
        for (Call call : calls) {
            if (call.calling == from) {
                if (call.called == to) {
                    return true;
                }
                if (seen.add(call.called) && reaches(call.called, to, seen)) {
                    return true;
                }
            }
        }
        return false;
    }

    private boolean oneGroup(int a, int b) {
        return a == b || reaches(a, b, new HashSet<>()) && reaches(b, a, new HashSet<>());
    }

    private boolean outer(Call call) {
        return !oneGroup(call.calling, call.called);
    }

    private int contextsNow(int method) {
        int sum = 0;
        boolean any = false;
        for (Call call : calls) {
            if (outer(call) && oneGroup(call.called, method)) {
                any = true;
                sum += contextsNow(call.calling);
            }
        }
        return any ? sum : 1;
    }

    private int contextNow(int number, int c) {
        Call call = calls.get(number);
        if (!outer(call)) {
            return c;
        }
        int sum = c;
        for (int i = 0; i < number; i++) {
            Call earlier = calls.get(i);
            if (outer(earlier) && oneGroup(earlier.called, call.called)) {
                sum += contextsNow(earlier.calling);
            }
        }
        return sum;
    }

    int solve() {
        int[] newCounts = new int[4];
        for (int method = 0; method < 4; method++) {
            newCounts[method] = contextsNow(method);
            if (newCounts[method] > 8) {
                return TOO_MANY;
            }
        }
        counts = newCounts;
        contextsByCall = new ArrayList<>();
        for (int i = 0; i < calls.size(); i++) {
            List<Integer> row = new ArrayList<>();
            for (int c = 0; c < counts[calls.get(i).calling]; c++) {
                row.add(contextNow(i, c));
            }
            contextsByCall.add(row);
        }
        pointsRows = new HashSet<>();
        holdsRows = new HashSet<>();
        int before;
        do {
            before = pointsRows.size() + holdsRows.size();
            useStatements();
            useCalls();
        } while (pointsRows.size() + holdsRows.size() != before);
        return pointsRows.size();
    }

    private void addPoints(int c, int v, int h) {
        if ((accepted.getOrDefault(v, 15) >> kinds.getOrDefault(h, 0) & 1) == 1) {
            pointsRows.add(new Row(c, v, h));
        }
    }

    private boolean has(int c, int v, int h) {
        return pointsRows.contains(new Row(c, v, h));
    }

    private void useStatements() {
        for (Statement s : statements) {
            for (int c = 0; c < counts[s.v / 4]; c++) {
                if (s.form == 'N') {
                    addPoints(c, s.v, s.w);
                    continue;
                }
                for (int h = 0; h < 8; h++) {
                    if (s.form == 'C' && has(c, s.w, h)) {
                        addPoints(c, s.v, h);
                    }
                    for (int g = 0; g < 8; g++) {
                        if (s.form == 'S' && has(c, s.v, h) && has(c, s.w, g)) {
                            holdsRows.add(new Row(h, s.f, g));
                        }
                        if (s.form == 'L' && has(c, s.w, h) && holdsRows.contains(new Row(h, s.f, g))) {
                            addPoints(c, s.v, g);
                        }
                    }
                }
            }
        }
    }

    private void useCalls() {
        for (int i = 0; i < calls.size(); i++) {
            List<Integer> row = contextsByCall.get(i);
            for (int c = 0; c < row.size(); c++) {
                int d = row.get(c);
                for (Pass pass : calls.get(i).passes) {
                    for (int h = 0; h < 8; h++) {
                        if (has(pass.back ? d : c, pass.w, h)) {
                            addPoints(pass.back ? c : d, pass.v, h);
                        }
                    }
                }
            }
        }
    }

    int points(int c, int v) {
        int bits = 0;
        for (Row row : pointsRows) {
            if (row.first == c && row.second == v) {
                bits |= 1 << row.third;
            }
        }
        return bits;
    }

    int holds(int h, int f) {
        int bits = 0;
        for (Row row : holdsRows) {
            if (row.first == h && row.second == f) {
                bits |= 1 << row.third;
            }
        }
        return bits;
    }

    int contexts(int method) {
        return method(method) ? counts[method] : BAD;
    }

    int context(int call, int c) {
        if (call < 0 || call >= contextsByCall.size()) {
            return BAD;
        }
        List<Integer> row = contextsByCall.get(call);
        return c < 0 || c >= row.size() ? BAD : row.get(c);
    }

    boolean alias(int c, int v, int d, int w) {
        for (int h = 0; h < 8; h++) {
            if (has(c, v, h) && has(d, w, h)) {
                return true;
            }
        }
        return false;
    }

    boolean order(int order) {
        if (order < 0 || order > 5) {
            return false;
        }
        orderNow = order;
        return true;
    }

    private static String bits(int number, int count) {
        StringBuilder text = new StringBuilder();
        for (int bit = count - 1; bit >= 0; bit--) {
            text.append(number >> bit & 1);
        }
        return text.toString();
    }

    int nodes(int which) {
        if (which != 0 && which != 1) {
            return BAD;
        }
        int[] widths = which == 0 ? new int[] {3, 4, 3} : new int[] {3, 1, 3};
        int width = widths[0] + widths[1] + widths[2];
        Set<String> rows = new HashSet<>();
        for (Row row : which == 0 ? pointsRows : holdsRows) {
            String[] numbers = {
                bits(row.first, widths[0]), bits(row.second, widths[1]), bits(row.third, widths[2])
            };
            int[] standing = STANDING[orderNow];
            rows.add(numbers[standing[0]] + numbers[standing[1]] + numbers[standing[2]]);
        }
        StringBuilder all = new StringBuilder();
        for (int i = 0; i < 1 << width; i++) {
            all.append(rows.contains(bits(i, width)) ? '1' : '0');
        }
        int sum = 0;
        for (int length = 1 << width; length > 1; length /= 2) {
            Set<String> functions = new HashSet<>();
            for (int start = 0; start < all.length(); start += length) {
                String function = all.substring(start, start + length);
                if (!function.substring(0, length / 2).equals(function.substring(length / 2))) {
                    functions.add(function);
                }
            }
            sum += functions.size();
        }
        return sum;
    }

    int size(int what) {
        switch (what) {
            case 0:
                return statements.size();
            case 1:
                return calls.size();
            case 2:
                int sum = 0;
                for (Call call : calls) {
                    sum += call.passes.size();
                }
                return sum;
            case 3:
                return holdsRows.size();
            case 4:
                return orderNow;
            default:
                return BAD;
        }
    }
}
