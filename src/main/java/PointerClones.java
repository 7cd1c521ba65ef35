import java.util.Arrays;

/**
 * Says which variables of a small program may point to which objects, each method being looked at
 * anew for every way in which it is called.
 *
 * <p>Sets of objects are kept as bits of an int (bit h for object h). All rows are made with the
 * object and used again, so that no later call makes anything.
 */
public final class PointerClones {
    public static final int BAD = -1;
    public static final int FULL = -2;
    public static final int TOO_MANY = -3;

    private static final int METHODS = 4;
    private static final int VARIABLES_OF_A_METHOD = 4;
    private static final int VARIABLES = METHODS * VARIABLES_OF_A_METHOD;
    private static final int OBJECTS = 8;
    private static final int KINDS = 4;
    private static final int ALL_KINDS = (1 << KINDS) - 1;
    private static final int FIELDS = 2;
    private static final int ORDERS = 6;

    private static final int MOST_STATEMENTS = 40;
    private static final int MOST_CALLS = 8;
    private static final int MOST_PASSES = 4;
    private static final int MOST_CONTEXTS = 8;

    private static final int NEW = 0;
    private static final int COPY = 1;
    private static final int STORE = 2;
    private static final int LOAD = 3;

    private static final int POINTS = 0;
    private static final int HOLDS = 1;

    private static final int SIZE_STATEMENTS = 0;
    private static final int SIZE_CALLS = 1;
    private static final int SIZE_PASSES = 2;
    private static final int SIZE_HOLDS = 3;
    private static final int SIZE_ORDER = 4;

    private final Program program = new Program();
    private final Numbering numbering = new Numbering();
    private final Relations relations = new Relations();
    private final Diagram diagram = new Diagram();
    private int orderSet = 0;

    public PointerClones() {
    }

    public boolean kind(int h, int kind) {
        if (!isWithin(h, OBJECTS) || !isWithin(kind, KINDS)) {
            return false;
        }
        program.kindOf[h] = kind;
        return true;
    }

    public boolean accept(int v, int set) {
        if (!isWithin(v, VARIABLES) || !isWithin(set, ALL_KINDS + 1)) {
            return false;
        }
        program.acceptedBy[v] = set;
        return true;
    }

    public int make(int v, int h) {
        if (!isWithin(v, VARIABLES) || !isWithin(h, OBJECTS)) {
            return BAD;
        }
        return program.addStatement(NEW, v, h, 0);
    }

    public int copy(int v, int w) {
        if (!areOfOneMethod(v, w)) {
            return BAD;
        }
        return program.addStatement(COPY, v, w, 0);
    }

    public int store(int v, int f, int w) {
        if (!areOfOneMethod(v, w) || !isWithin(f, FIELDS)) {
            return BAD;
        }
        return program.addStatement(STORE, v, w, f);
    }

    public int load(int v, int w, int f) {
        if (!areOfOneMethod(v, w) || !isWithin(f, FIELDS)) {
            return BAD;
        }
        return program.addStatement(LOAD, v, w, f);
    }

    public int call(int calling, int called) {
        if (!isWithin(calling, METHODS) || !isWithin(called, METHODS)) {
            return BAD;
        }
        return program.addCall(calling, called);
    }

    public int pass(int call, int v, int w, boolean back) {
        if (!program.mayPass(call, v, w, back)) {
            return BAD;
        }
        return program.addPass(call, v, w, back);
    }

    public int solve() {
        if (!numbering.renew(program)) {
            return TOO_MANY;
        }
        relations.renew(program, numbering);
        return relations.countPoints();
    }

    public int points(int c, int v) {
        if (!isVariableIn(c, v)) {
            return 0;
        }
        return relations.pointedTo(c, v);
    }

    public int holds(int h, int f) {
        if (!isWithin(h, OBJECTS) || !isWithin(f, FIELDS)) {
            return 0;
        }
        return relations.heldIn(h, f);
    }

    public int contexts(int method) {
        if (!isWithin(method, METHODS)) {
            return BAD;
        }
        return numbering.countOf[method];
    }

    public int context(int call, int c) {
        if (!isWithin(call, numbering.calls)) {
            return BAD;
        }
        if (!isWithin(c, numbering.countOf[program.calling[call]])) {
            return BAD;
        }
        return numbering.contextBy(call, c);
    }

    public boolean alias(int c, int v, int d, int w) {
        if (!isVariableIn(c, v) || !isVariableIn(d, w)) {
            return false;
        }
        return (relations.pointedTo(c, v) & relations.pointedTo(d, w)) != 0;
    }

    public boolean order(int order) {
        if (!isWithin(order, ORDERS)) {
            return false;
        }
        orderSet = order;
        return true;
    }

    public int nodes(int which) {
        switch (which) {
            case POINTS:
                relations.drawPoints(diagram, orderSet);
                return diagram.countNodes();
            case HOLDS:
                relations.drawHolds(diagram, orderSet);
                return diagram.countNodes();
            default:
                return BAD;
        }
    }

    public int size(int what) {
        switch (what) {
            case SIZE_STATEMENTS:
                return program.statements;
            case SIZE_CALLS:
                return program.calls;
            case SIZE_PASSES:
                return program.countPasses();
            case SIZE_HOLDS:
                return relations.countHolds();
            case SIZE_ORDER:
                return orderSet;
            default:
                return BAD;
        }
    }

    private boolean isVariableIn(int c, int v) {
        return isWithin(v, VARIABLES) && isWithin(c, numbering.countOf[methodOf(v)]);
    }

    private static boolean isWithin(int number, int bound) {
        return number >= 0 && number < bound;
    }

    private static int methodOf(int v) {
        return v / VARIABLES_OF_A_METHOD;
    }

    private static boolean isOfMethod(int v, int method) {
        return isWithin(v, VARIABLES) && methodOf(v) == method;
    }

    private static boolean areOfOneMethod(int v, int w) {
        return isWithin(w, VARIABLES) && isOfMethod(v, methodOf(w));
    }

    private static boolean hasBit(int set, int bit) {
        return (set >> bit & 1) != 0;
    }

    /** What has been told of the program so far, solved or not. */
    private static final class Program {
        private final int[] kindOf = new int[OBJECTS];
        private final int[] acceptedBy = new int[VARIABLES];

        private int statements = 0;
        private final int[] form = new int[MOST_STATEMENTS];
        private final int[] left = new int[MOST_STATEMENTS];
        // The object of a NEW, the other variable of any other statement.
        private final int[] right = new int[MOST_STATEMENTS];
        private final int[] field = new int[MOST_STATEMENTS];

        private int calls = 0;
        private final int[] calling = new int[MOST_CALLS];
        private final int[] called = new int[MOST_CALLS];
        private final int[] passesOf = new int[MOST_CALLS];

        // Each call has MOST_PASSES places of its own in these rows.
        private final int[] passTo = new int[MOST_CALLS * MOST_PASSES];
        private final int[] passFrom = new int[MOST_CALLS * MOST_PASSES];
        private final boolean[] passBack = new boolean[MOST_CALLS * MOST_PASSES];

        Program() {
            Arrays.fill(acceptedBy, ALL_KINDS);
        }

        int addStatement(int newForm, int newLeft, int newRight, int newField) {
            if (statements >= MOST_STATEMENTS) {
                return FULL;
            }
            form[statements] = newForm;
            left[statements] = newLeft;
            right[statements] = newRight;
            field[statements] = newField;
            statements++;
            return statements;
        }

        int addCall(int newCalling, int newCalled) {
            if (calls >= MOST_CALLS) {
                return FULL;
            }
            calling[calls] = newCalling;
            called[calls] = newCalled;
            calls++;
            return calls - 1;
        }

        boolean mayPass(int call, int to, int from, boolean back) {
            if (!isWithin(call, calls)) {
                return false;
            }
            if (back) {
                return isOfMethod(to, calling[call]) && isOfMethod(from, called[call]);
            }
            return isOfMethod(to, called[call]) && isOfMethod(from, calling[call]);
        }

        int addPass(int call, int to, int from, boolean back) {
            if (passesOf[call] >= MOST_PASSES) {
                return FULL;
            }
            int place = call * MOST_PASSES + passesOf[call];
            passTo[place] = to;
            passFrom[place] = from;
            passBack[place] = back;
            passesOf[call]++;
            return passesOf[call];
        }

        int countPasses() {
            int sum = 0;
            for (int call = 0; call < calls; call++) {
                sum += passesOf[call];
            }
            return sum;
        }
    }

    /** The contexts of methods and calls, by the latest solving. */
    private static final class Numbering {
        private final int[] countOf = new int[METHODS];
        // What context 0 of the calling method is by a call; context c lies c further on.
        private final int[] firstBy = new int[MOST_CALLS];
        // Later calls were not there at the latest solving.
        private int calls = 0;

        private final int[] reachedFrom = new int[METHODS];
        // Apart from countOf, which has to stay if a group has too many.
        private final int[] reckoned = new int[METHODS];

        Numbering() {
            Arrays.fill(countOf, 1);
        }

        int contextBy(int call, int c) {
            return firstBy[call] + c;
        }

        /** False, with all that can be seen left as it was, when a group would have too many. */
        boolean renew(Program program) {
            findReached(program);
            reckonCounts(program);
            for (int method = 0; method < METHODS; method++) {
                if (reckoned[method] > MOST_CONTEXTS) {
                    return false;
                }
            }
            keepReckoned(program);
            return true;
        }

        private void findReached(Program program) {
            Arrays.fill(reachedFrom, 0);
            for (int call = 0; call < program.calls; call++) {
                reachedFrom[program.calling[call]] |= 1 << program.called[call];
            }
            // The way's middle must be the outermost loop: then one sweep finds all ways.
            for (int middle = 0; middle < METHODS; middle++) {
                for (int method = 0; method < METHODS; method++) {
                    if (hasBit(reachedFrom[method], middle)) {
                        reachedFrom[method] |= reachedFrom[middle];
                    }
                }
            }
        }

        private void reckonCounts(Program program) {
            Arrays.fill(reckoned, 1);
            // A chain of outer calls passes each method at most once, so METHODS rounds settle all.
            for (int round = 0; round < METHODS; round++) {
                for (int method = 0; method < METHODS; method++) {
                    reckoned[method] = Math.max(1, broughtBefore(program, program.calls, method));
                }
            }
        }

        /** How many contexts the outer calls before a call bring to a method's group. */
        private int broughtBefore(Program program, int end, int method) {
            int sum = 0;
            for (int call = 0; call < end; call++) {
                if (isOuter(program, call) && areOfOneGroup(program.called[call], method)) {
                    sum += reckoned[program.calling[call]];
                }
            }
            return sum;
        }

        private void keepReckoned(Program program) {
            System.arraycopy(reckoned, 0, countOf, 0, METHODS);
            calls = program.calls;
            for (int call = 0; call < calls; call++) {
                boolean outer = isOuter(program, call);
                firstBy[call] = outer ? broughtBefore(program, call, program.called[call]) : 0;
            }
        }

        private boolean isOuter(Program program, int call) {
            return !areOfOneGroup(program.calling[call], program.called[call]);
        }

        private boolean areOfOneGroup(int one, int other) {
            return one == other || hasBit(reachedFrom[one], other) && hasBit(reachedFrom[other], one);
        }
    }

    /** POINTS and HOLDS, by the latest solving. */
    private static final class Relations {
        private static final int POINTS_ROWS = MOST_CONTEXTS * VARIABLES * OBJECTS;
        private static final int HOLDS_ROWS = OBJECTS * FIELDS * OBJECTS;
        // Every round but the last adds a row.
        private static final int MOST_ROUNDS = POINTS_ROWS + HOLDS_ROWS + 1;

        private final int[] pointed = new int[MOST_CONTEXTS * VARIABLES];
        private final int[] held = new int[OBJECTS * FIELDS];
        private final int[] welcomeTo = new int[VARIABLES];
        private boolean grown = false;

        int pointedTo(int c, int v) {
            return pointed[c * VARIABLES + v];
        }

        int heldIn(int h, int f) {
            return held[h * FIELDS + f];
        }

        int countPoints() {
            return countBits(pointed);
        }

        int countHolds() {
            return countBits(held);
        }

        private static int countBits(int[] sets) {
            int sum = 0;
            for (int set : sets) {
                sum += Integer.bitCount(set);
            }
            return sum;
        }

        void renew(Program program, Numbering numbering) {
            Arrays.fill(pointed, 0);
            Arrays.fill(held, 0);
            findWelcome(program);
            grown = true;
            for (int round = 0; grown && round < MOST_ROUNDS; round++) {
                grown = false;
                applyStatements(program, numbering);
                applyCalls(program, numbering);
            }
        }

        private void findWelcome(Program program) {
            for (int v = 0; v < VARIABLES; v++) {
                int welcome = 0;
                for (int h = 0; h < OBJECTS; h++) {
                    if (hasBit(program.acceptedBy[v], program.kindOf[h])) {
                        welcome |= 1 << h;
                    }
                }
                welcomeTo[v] = welcome;
            }
        }

        private void applyStatements(Program program, Numbering numbering) {
            for (int statement = 0; statement < program.statements; statement++) {
                int contexts = numbering.countOf[methodOf(program.left[statement])];
                for (int c = 0; c < contexts; c++) {
                    applyStatement(program, statement, c);
                }
            }
        }

        private void applyStatement(Program program, int statement, int c) {
            int left = program.left[statement];
            int right = program.right[statement];
            int field = program.field[statement];
            switch (program.form[statement]) {
                case NEW:
                    addPointed(c, left, 1 << right);
                    break;
                case COPY:
                    addPointed(c, left, pointedTo(c, right));
                    break;
                case STORE:
                    addHeld(pointedTo(c, left), field, pointedTo(c, right));
                    break;
                default:
                    addPointed(c, left, heldInAny(pointedTo(c, right), field));
                    break;
            }
        }

        private void applyCalls(Program program, Numbering numbering) {
            for (int call = 0; call < program.calls; call++) {
                int contexts = numbering.countOf[program.calling[call]];
                for (int c = 0; c < contexts; c++) {
                    applyPasses(program, call, c, numbering.contextBy(call, c));
                }
            }
        }

        private void applyPasses(Program program, int call, int c, int d) {
            int start = call * MOST_PASSES;
            int end = start + program.passesOf[call];
            for (int place = start; place < end; place++) {
                int to = program.passTo[place];
                int from = program.passFrom[place];
                if (program.passBack[place]) {
                    addPointed(c, to, pointedTo(d, from));
                } else {
                    addPointed(d, to, pointedTo(c, from));
                }
            }
        }

        private void addPointed(int c, int v, int objects) {
            addTo(pointed, c * VARIABLES + v, objects & welcomeTo[v]);
        }

        private void addHeld(int holders, int f, int objects) {
            for (int h = 0; h < OBJECTS; h++) {
                if (hasBit(holders, h)) {
                    addTo(held, h * FIELDS + f, objects);
                }
            }
        }

        private void addTo(int[] sets, int place, int objects) {
            int sum = sets[place] | objects;
            if (sum != sets[place]) {
                sets[place] = sum;
                grown = true;
            }
        }

        private int heldInAny(int holders, int f) {
            int sum = 0;
            for (int h = 0; h < OBJECTS; h++) {
                if (hasBit(holders, h)) {
                    sum |= heldIn(h, f);
                }
            }
            return sum;
        }

        void drawPoints(Diagram diagram, int order) {
            diagram.begin(POINTS, order);
            for (int c = 0; c < MOST_CONTEXTS; c++) {
                for (int v = 0; v < VARIABLES; v++) {
                    diagram.drawRows(c, v, pointedTo(c, v));
                }
            }
        }

        void drawHolds(Diagram diagram, int order) {
            diagram.begin(HOLDS, order);
            for (int h = 0; h < OBJECTS; h++) {
                for (int f = 0; f < FIELDS; f++) {
                    diagram.drawRows(h, f, heldIn(h, f));
                }
            }
        }
    }

    /**
     * Counts the nodes of one relation at a time. A function of the bits from some place on is
     * known by a name: 0 and 1 are the constant ones, each node has a name of its own from 2 on.
     */
    private static final class Diagram {
        private static final int NUMBERS = 3;
        private static final int MOST_FUNCTIONS = 1024;
        private static final int FIRST_NODE = 2;
        // How many bits each number has, POINTS first, then HOLDS.
        private static final int[] BITS = {3, 4, 3, 3, 1, 3};
        // Which number stands first, second and third, order by order.
        private static final int[] STANDING = {0, 1, 2, 0, 2, 1, 1, 0, 2, 1, 2, 0, 2, 0, 1, 2, 1, 0};

        private final int[] shiftOf = new int[NUMBERS];
        // The names of the functions with all bits before a place fixed, in the order of those bits.
        private final int[] functions = new int[MOST_FUNCTIONS];
        private int rows = 0;

        // The nodes of the one place that is looked at.
        private final int[] ifZero = new int[MOST_FUNCTIONS / 2];
        private final int[] ifOne = new int[MOST_FUNCTIONS / 2];
        private int found = 0;

        void begin(int which, int order) {
            int bits = 0;
            for (int position = NUMBERS - 1; position >= 0; position--) {
                int number = STANDING[order * NUMBERS + position];
                shiftOf[number] = bits;
                bits += BITS[which * NUMBERS + number];
            }
            rows = 1 << bits;
            Arrays.fill(functions, 0, rows, 0);
        }

        void drawRows(int first, int second, int thirds) {
            if (thirds == 0) {
                return;
            }
            int start = (first << shiftOf[0]) + (second << shiftOf[1]);
            for (int third = 0; third < OBJECTS; third++) {
                functions[start + (third << shiftOf[2])] = thirds >> third & 1;
            }
        }

        /** Uses up what was drawn: from the last place to the first, two functions become one. */
        int countNodes() {
            int nodes = 0;
            for (int count = rows / 2; count > 0; count /= 2) {
                joinPairs(count, FIRST_NODE + nodes);
                nodes += found;
            }
            return nodes;
        }

        private void joinPairs(int count, int firstName) {
            found = 0;
            for (int i = 0; i < count; i++) {
                int zero = functions[2 * i];
                int one = functions[2 * i + 1];
                // Equal halves do not depend on the bit, so they need no node.
                functions[i] = zero == one ? zero : firstName + findNode(zero, one);
            }
        }

        private int findNode(int zero, int one) {
            for (int node = 0; node < found; node++) {
                if (ifZero[node] == zero && ifOne[node] == one) {
                    return node;
                }
            }
            ifZero[found] = zero;
            ifOne[found] = one;
            found++;
            return found - 1;
        }
    }
}
