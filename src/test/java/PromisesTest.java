/** The promises of the document one by one: ordinary inputs, edges and wrong inputs. */
public final class PromisesTest {
    private static final int BAD = PointerClones.BAD;
    private static final int FULL = PointerClones.FULL;
    private static final int TOO_MANY = PointerClones.TOO_MANY;
    private static final int[] FAR = {Integer.MIN_VALUE, -1000, -1, 1000, Integer.MAX_VALUE};

    private static final Checks CHECKS = new Checks("PromisesTest");

    public static void main(String[] args) {
        constants();
        newObject();
        kind();
        accept();
        acceptAtEveryRule();
        make();
        copy();
        store();
        load();
        statementsAreFullTogether();
        call();
        pass();
        passSemantics();
        solve();
        solveTooMany();
        solveStays();
        points();
        holds();
        contexts();
        groups();
        context();
        contextByLatestSolving();
        alias();
        order();
        nodes();
        nodesShared();
        nodesOfHolds();
        size();
        CHECKS.end();
    }

    private static void due(String what, long got, long want) {
        CHECKS.due(what, got, want);
    }

    private static void due(String what, boolean got, boolean want) {
        CHECKS.due(what, got, want);
    }

    private static void constants() {
        CHECKS.begin("constants");
        due("BAD", BAD, -1);
        due("FULL", FULL, -2);
        due("TOO_MANY", TOO_MANY, -3);
    }

    private static void newObject() {
        CHECKS.begin("promise 1");
        PointerClones x = new PointerClones();
        for (int what = 0; what < 5; what++) {
            due("size " + what, x.size(what), 0);
        }
        for (int method = 0; method < 4; method++) {
            due("contexts " + method, x.contexts(method), 1);
        }
        for (int v = 0; v < 16; v++) {
            due("points " + v, x.points(0, v), 0);
        }
        for (int h = 0; h < 8; h++) {
            due("holds " + h + " 0", x.holds(h, 0), 0);
            due("holds " + h + " 1", x.holds(h, 1), 0);
        }
        due("context", x.context(0, 0), BAD);
        due("nodes 0", x.nodes(0), 0);
        due("nodes 1", x.nodes(1), 0);
        due("solve", x.solve(), 0);
        due("nodes after solving nothing", x.nodes(0), 0);
        due("another object is its own", new PointerClones().make(0, 0), 1);
        due("and this one untouched", x.size(0), 0);
    }

    private static void kind() {
        CHECKS.begin("promise 2");
        PointerClones x = new PointerClones();
        x.make(0, 7);
        x.make(0, 0);
        due("kind of object 0 is 0", x.accept(0, 1), true);
        due("kind 7 3", x.kind(7, 3), true);
        due("solve", x.solve(), 1);
        due("object 7 is refused", x.points(0, 0), 1);
        due("kind 7 0", x.kind(7, 0), true);
        due("kind waits for solving", x.points(0, 0), 1);
        due("solve", x.solve(), 2);
        due("object 7 is accepted", x.points(0, 0), 0x81);
        due("kind -1 0", x.kind(-1, 0), false);
        due("kind 8 0", x.kind(8, 0), false);
        due("kind 0 -1", x.kind(0, -1), false);
        due("kind 0 4", x.kind(0, 4), false);
        for (int far : FAR) {
            due("kind far " + far, x.kind(far, 1), false);
            due("kind to " + far, x.kind(0, far), false);
        }
        due("solve again", x.solve(), 2);
    }

    private static void accept() {
        CHECKS.begin("promise 3");
        PointerClones x = new PointerClones();
        for (int h = 0; h < 4; h++) {
            x.kind(h, h);
            x.make(15, h);
        }
        due("all kinds at first", x.solve(), 4);
        for (int set = 0; set < 16; set++) {
            due("accept 15 " + set, x.accept(15, set), true);
            due("solve " + set, x.solve(), Integer.bitCount(set));
            due("points " + set, x.points(0, 15), set);
        }
        x.accept(15, 5);
        due("accept waits for solving", x.points(0, 15), 15);
        x.solve();
        due("accept 15 16", x.accept(15, 16), false);
        due("accept 15 -1", x.accept(15, -1), false);
        due("accept -1 0", x.accept(-1, 0), false);
        due("accept 16 0", x.accept(16, 0), false);
        for (int far : FAR) {
            due("accept far " + far, x.accept(far, 1), false);
            due("accept set " + far, x.accept(15, far), false);
        }
        due("what was false changed nothing", x.solve(), 2);
        due("points", x.points(0, 15), 5);
    }

    private static void acceptAtEveryRule() {
        CHECKS.begin("promises 3 and 10");
        PointerClones x = new PointerClones();
        x.kind(1, 1);
        x.make(0, 0);
        x.make(0, 1);
        x.accept(1, 1);
        x.copy(1, 0);
        x.copy(2, 1);
        x.store(0, 0, 0);
        x.load(3, 0, 0);
        x.accept(3, 2);
        x.call(0, 1);
        x.pass(0, 4, 0, false);
        x.accept(4, 2);
        x.pass(0, 5, 0, false);
        x.call(1, 0);
        due("one group", x.solve(), 2 + 1 + 1 + 1 + 1 + 2);
        due("copy", x.points(0, 1), 1);
        due("what was refused goes no further", x.points(0, 2), 1);
        due("load", x.points(0, 3), 2);
        due("pass", x.points(0, 4), 2);
        due("pass to all", x.points(0, 5), 3);
        due("fields hold every kind", x.holds(1, 0), 3);
        x.accept(0, 0);
        due("nothing is made where nothing is accepted", x.solve(), 0);
        due("nor held", x.size(3), 0);

        x = new PointerClones();
        x.kind(1, 1);
        x.call(0, 1);
        x.make(4, 0);
        x.make(4, 1);
        x.pass(0, 0, 4, true);
        x.accept(0, 2);
        due("pass back", x.solve(), 3);
        due("points after pass back", x.points(0, 0), 2);
    }

    private static void make() {
        CHECKS.begin("promise 4");
        PointerClones x = new PointerClones();
        due("make 0 0", x.make(0, 0), 1);
        due("make 15 7", x.make(15, 7), 2);
        due("the same again counts", x.make(0, 0), 3);
        due("solve", x.solve(), 2);
        due("points 0", x.points(0, 0), 1);
        due("points 15", x.points(0, 15), 128);
        due("make -1 0", x.make(-1, 0), BAD);
        due("make 16 0", x.make(16, 0), BAD);
        due("make 0 -1", x.make(0, -1), BAD);
        due("make 0 8", x.make(0, 8), BAD);
        for (int far : FAR) {
            due("make far " + far, x.make(far, 0), BAD);
            due("make of " + far, x.make(0, far), BAD);
        }
        due("size", x.size(0), 3);
        for (int i = 4; i <= 40; i++) {
            due("make to " + i, x.make(1, 1), i);
        }
        due("make beyond", x.make(1, 2), FULL);
        due("BAD before FULL, variable", x.make(16, 0), BAD);
        due("BAD before FULL, object", x.make(0, 8), BAD);
        due("size", x.size(0), 40);
        due("solve", x.solve(), 3);
        due("what did not fit is not there", x.points(0, 1), 2);
    }

    private static void copy() {
        CHECKS.begin("promise 5");
        PointerClones x = new PointerClones();
        due("copy 3 2", x.copy(3, 2), 1);
        due("copy 2 1", x.copy(2, 1), 2);
        due("copy 1 0", x.copy(1, 0), 3);
        due("copy to itself", x.copy(0, 0), 4);
        due("make", x.make(0, 5), 5);
        due("make later on the way", x.make(2, 6), 6);
        due("copy 12 15", x.copy(12, 15), 7);
        due("solve, against the statements' order", x.solve(), 6);
        due("points 3", x.points(0, 3), 0x60);
        due("points 1", x.points(0, 1), 0x20);
        due("never back", x.points(0, 0), 0x20);
        due("copy of another method", x.copy(0, 4), BAD);
        due("copy to another method", x.copy(4, 3), BAD);
        due("copy -1 0", x.copy(-1, 0), BAD);
        due("copy 0 -1", x.copy(0, -1), BAD);
        due("copy -1 -1", x.copy(-1, -1), BAD);
        due("copy 15 16", x.copy(15, 16), BAD);
        due("copy 16 15", x.copy(16, 15), BAD);
        due("copy 16 17", x.copy(16, 17), BAD);
        for (int far : FAR) {
            due("copy both " + far, x.copy(far, far), BAD);
            due("copy to " + far, x.copy(far, 0), BAD);
            due("copy from " + far, x.copy(0, far), BAD);
        }
        due("size", x.size(0), 7);
    }

    private static void store() {
        CHECKS.begin("promise 6");
        PointerClones x = new PointerClones();
        due("store", x.store(8, 1, 9), 1);
        x.make(8, 2);
        x.make(8, 3);
        x.make(9, 4);
        x.make(9, 5);
        due("store 0", x.store(9, 0, 9), 6);
        due("solve", x.solve(), 4);
        due("holds 2 1", x.holds(2, 1), 0x30);
        due("holds 3 1", x.holds(3, 1), 0x30);
        due("holds 2 0", x.holds(2, 0), 0);
        due("holds 4 0", x.holds(4, 0), 0x30);
        due("holds 5 0", x.holds(5, 0), 0x30);
        due("holds 4 1", x.holds(4, 1), 0);
        due("rows", x.size(3), 8);
        due("field -1", x.store(8, -1, 9), BAD);
        due("field 2", x.store(8, 2, 9), BAD);
        due("other method", x.store(8, 0, 12), BAD);
        due("other method", x.store(7, 0, 8), BAD);
        due("store -1", x.store(-1, 0, 0), BAD);
        due("store from -1", x.store(0, 0, -1), BAD);
        due("store 16", x.store(16, 0, 16), BAD);
        due("store from 16", x.store(15, 0, 16), BAD);
        for (int far : FAR) {
            due("store to " + far, x.store(far, 0, far), BAD);
            due("store field " + far, x.store(0, far, 0), BAD);
            due("store from " + far, x.store(0, 0, far), BAD);
        }
        due("size", x.size(0), 6);
    }

    private static void load() {
        CHECKS.begin("promise 7");
        PointerClones x = new PointerClones();
        due("load", x.load(7, 4, 1), 1);
        due("load the other field", x.load(6, 4, 0), 2);
        due("store", x.store(4, 1, 5), 3);
        due("load through what was loaded", x.load(5, 7, 1), 4);
        x.make(4, 0);
        x.make(5, 1);
        x.store(5, 1, 4);
        due("solve", x.solve(), 1 + 2 + 2);
        due("points 7", x.points(0, 7), 3);
        due("points 6", x.points(0, 6), 0);
        due("points 5", x.points(0, 5), 3);
        due("holds 0 1", x.holds(0, 1), 3);
        due("holds 1 1", x.holds(1, 1), 1);
        due("field -1", x.load(4, 4, -1), BAD);
        due("field 2", x.load(4, 4, 2), BAD);
        due("other method", x.load(4, 3, 0), BAD);
        due("other method", x.load(3, 4, 0), BAD);
        due("load to -1", x.load(-1, 0, 0), BAD);
        due("load from -1", x.load(0, -1, 0), BAD);
        due("load 16", x.load(16, 16, 0), BAD);
        for (int far : FAR) {
            due("load to " + far, x.load(far, far, 0), BAD);
            due("load from " + far, x.load(0, far, 0), BAD);
            due("load field " + far, x.load(0, 0, far), BAD);
        }
        due("size", x.size(0), 7);

        x = new PointerClones();
        x.make(0, 0);
        x.make(1, 1);
        x.copy(2, 0);
        x.copy(2, 1);
        x.store(0, 0, 0);
        x.store(1, 0, 1);
        x.load(3, 2, 0);
        x.solve();
        due("load from fields of several objects", x.points(0, 3), 3);

        x = new PointerClones();
        x.call(0, 1);
        x.call(0, 1);
        x.make(0, 0);
        x.make(1, 1);
        x.pass(0, 4, 0, false);
        x.pass(1, 5, 0, false);
        x.pass(1, 6, 1, false);
        x.store(5, 0, 6);
        x.load(7, 4, 0);
        x.solve();
        due("fields are the same in every context", x.points(0, 7), 2);
        due("but variables are not", x.points(1, 7), 0);
    }

    private static void statementsAreFullTogether() {
        CHECKS.begin("promises 4 to 7");
        PointerClones x = new PointerClones();
        for (int i = 0; i < 10; i++) {
            due("make", x.make(0, 0), 4 * i + 1);
            due("copy", x.copy(1, 0), 4 * i + 2);
            due("store", x.store(0, 0, 1), 4 * i + 3);
            due("load", x.load(2, 0, 0), 4 * i + 4);
        }
        due("make", x.make(3, 0), FULL);
        due("copy", x.copy(3, 0), FULL);
        due("store", x.store(0, 1, 0), FULL);
        due("load", x.load(3, 0, 0), FULL);
        due("make BAD", x.make(0, 9), BAD);
        due("copy BAD", x.copy(3, 4), BAD);
        due("store BAD", x.store(0, 2, 0), BAD);
        due("load BAD", x.load(3, 0, 2), BAD);
        due("size", x.size(0), 40);
        due("solve", x.solve(), 3);
        due("points 3", x.points(0, 3), 0);
        due("holds", x.size(3), 1);
    }

    private static void call() {
        CHECKS.begin("promise 8");
        PointerClones x = new PointerClones();
        due("call 0 3", x.call(0, 3), 0);
        due("call 4 0", x.call(4, 0), BAD);
        due("call 0 4", x.call(0, 4), BAD);
        due("call -1 0", x.call(-1, 0), BAD);
        due("call 0 -1", x.call(0, -1), BAD);
        for (int far : FAR) {
            due("call by " + far, x.call(far, 0), BAD);
            due("call of " + far, x.call(0, far), BAD);
        }
        due("size", x.size(1), 1);
        for (int i = 1; i < 8; i++) {
            due("call of itself", x.call(2, 2), i);
        }
        due("call beyond", x.call(0, 1), FULL);
        due("BAD before FULL, calling", x.call(4, 1), BAD);
        due("BAD before FULL, called", x.call(1, 4), BAD);
        due("size", x.size(1), 8);
        x.solve();
        due("one call alone is outer", x.contexts(3), 1);
        due("a method's call of itself brings none", x.contexts(2), 1);
        due("what did not fit brings none", x.contexts(1), 1);
    }

    private static void pass() {
        CHECKS.begin("promise 9");
        PointerClones x = new PointerClones();
        due("no call yet", x.pass(0, 4, 0, false), BAD);
        x.call(0, 1);
        x.call(2, 2);
        due("forth", x.pass(0, 4, 0, false), 1);
        due("forth, not to the called", x.pass(0, 8, 0, false), BAD);
        due("forth, not from the calling", x.pass(0, 4, 8, false), BAD);
        due("forth, the wrong way round", x.pass(0, 0, 4, false), BAD);
        due("back", x.pass(0, 0, 4, true), 2);
        due("back, not to the calling", x.pass(0, 8, 4, true), BAD);
        due("back, not from the called", x.pass(0, 0, 8, true), BAD);
        due("back, the wrong way round", x.pass(0, 4, 0, true), BAD);
        due("by a call of itself", x.pass(1, 8, 11, false), 1);
        due("and back", x.pass(1, 8, 11, true), 2);
        due("call -1", x.pass(-1, 4, 0, false), BAD);
        due("call 2", x.pass(2, 4, 0, false), BAD);
        due("variable -1", x.pass(0, 4, -1, false), BAD);
        due("variable -1 back", x.pass(0, -1, 4, true), BAD);
        due("variable 16", x.pass(0, 16, 0, false), BAD);
        for (int far : FAR) {
            due("by call " + far, x.pass(far, 4, 0, false), BAD);
            due("to " + far, x.pass(0, far, 0, false), BAD);
            due("from " + far, x.pass(0, 4, far, false), BAD);
            due("back to " + far, x.pass(0, far, 4, true), BAD);
            due("back from " + far, x.pass(0, 0, far, true), BAD);
        }
        due("the same again counts", x.pass(0, 4, 0, false), 3);
        due("the fourth", x.pass(0, 7, 3, false), 4);
        due("the fifth", x.pass(0, 4, 0, false), FULL);
        due("the fifth, back", x.pass(0, 0, 4, true), FULL);
        due("BAD before FULL", x.pass(0, 0, 4, false), BAD);
        due("the other call has room", x.pass(1, 9, 10, false), 3);
        due("size", x.size(2), 7);
    }

    private static void passSemantics() {
        CHECKS.begin("promises 9 and 10");
        PointerClones x = new PointerClones();
        // Method 1 gives back what it gets: each caller sees its own object alone.
        x.call(0, 1);
        x.call(2, 1);
        x.make(0, 1);
        x.make(8, 2);
        x.pass(0, 4, 0, false);
        x.pass(1, 4, 8, false);
        x.copy(5, 4);
        x.pass(0, 3, 5, true);
        x.pass(1, 11, 5, true);
        due("solve", x.solve(), 8);
        due("back to the first", x.points(0, 3), 2);
        due("back to the second", x.points(0, 11), 4);
        due("inside the first", x.points(0, 5), 2);
        due("inside the second", x.points(1, 5), 4);

        x = new PointerClones();
        x.call(3, 3);
        x.pass(0, 13, 12, false);
        x.pass(0, 14, 13, true);
        x.make(12, 0);
        due("passes by a call of itself", x.solve(), 3);

        x = new PointerClones();
        x.call(1, 0);
        x.make(0, 3);
        x.pass(0, 4, 0, true);
        x.call(1, 0);
        x.pass(1, 5, 0, true);
        x.accept(0, 0);
        due("nothing comes back", x.solve(), 0);
        x.accept(0, 15);
        due("a NEW holds for all contexts", x.solve(), 4);
        due("points 0", x.points(0, 0), 8);
        due("points 1", x.points(1, 0), 8);
    }

    private static void solve() {
        CHECKS.begin("promise 10");
        PointerClones x = new PointerClones();
        // The longest way against the statements' order, through all methods and fields.
        x.copy(15, 14);
        x.copy(14, 13);
        x.copy(13, 12);
        x.load(10, 9, 0);
        x.store(9, 0, 8);
        x.make(9, 7);
        x.copy(5, 4);
        x.copy(1, 0);
        x.make(0, 2);
        x.call(2, 3);
        x.call(1, 2);
        x.call(0, 1);
        x.pass(0, 12, 10, false);
        x.pass(1, 8, 5, false);
        x.pass(2, 4, 1, false);
        due("solve", x.solve(), 11);
        due("points 15", x.points(0, 15), 4);
        due("solve again", x.solve(), 11);

        x = new PointerClones();
        for (int i = 0; i < 8; i++) {
            x.call(0, 1);
        }
        for (int v = 4; v < 8; v++) {
            for (int h = 0; h < 8; h++) {
                x.make(v, h);
            }
        }
        x.store(4, 0, 4);
        x.store(4, 1, 4);
        due("all rows of a method with eight contexts", x.solve(), 256);
        due("all rows of HOLDS", x.size(3), 128);
        due("nodes of all HOLDS", x.nodes(1), 0);
        due("nodes of all of one method", x.nodes(0), 2);
    }

    private static void solveTooMany() {
        CHECKS.begin("promise 10, TOO_MANY");
        PointerClones x = new PointerClones();
        x.make(0, 0);
        x.call(0, 1);
        x.call(0, 1);
        x.call(0, 1);
        x.pass(2, 4, 0, false);
        due("solve", x.solve(), 2);
        x.call(1, 2);
        x.call(1, 2);
        x.call(0, 2);
        x.call(0, 2);
        due("eight are not too many", x.solve(), 2);
        due("contexts 2", x.contexts(2), 8);
        x.make(1, 1);
        x.call(0, 2);
        due("nine are too many", x.solve(), TOO_MANY);
        due("contexts stay", x.contexts(2), 8);
        due("relations stay", x.points(0, 1), 0);
        due("and again", x.points(2, 4), 1);
        due("calls stay", x.context(6, 0), 7);
        due("the new call was not there", x.context(7, 0), BAD);
        due("the program stays as well", x.size(1), 8);
        due("still too many", x.solve(), TOO_MANY);

        x = new PointerClones();
        x.call(0, 1);
        x.call(0, 1);
        x.call(0, 1);
        x.call(1, 2);
        x.call(1, 2);
        x.call(1, 2);
        x.call(2, 3);
        due("solve of a new object", x.solve(), TOO_MANY);
        due("one context still", x.contexts(1), 1);
        due("no call still", x.context(0, 0), BAD);
        x.call(2, 1);
        due("a wider group may have fewer", x.solve(), 0);
        due("contexts 1", x.contexts(1), 3);
        due("contexts 2", x.contexts(2), 3);
        due("contexts 3", x.contexts(3), 3);

        for (int method = 0; method < 4; method++) {
            int below = (method + 1) % 4;
            int lowest = (method + 2) % 4;
            x = new PointerClones();
            for (int i = 0; i < 4; i++) {
                x.call(below, method);
            }
            x.call(lowest, below);
            x.call(lowest, below);
            due("eight of method " + method, x.solve(), 0);
            due("contexts of method " + method, x.contexts(method), 8);
            x.call(lowest, below);
            due("twelve of method " + method, x.solve(), TOO_MANY);
            due("contexts stay of method " + method, x.contexts(method), 8);
            due("contexts stay of method " + below, x.contexts(below), 2);
        }
    }

    private static void solveStays() {
        CHECKS.begin("promise 10, until the next time");
        PointerClones x = new PointerClones();
        x.make(0, 0);
        x.store(0, 0, 0);
        x.solve();
        x.make(0, 1);
        x.call(0, 1);
        x.call(0, 1);
        x.pass(0, 4, 0, false);
        due("points", x.points(0, 0), 1);
        due("points of the called", x.points(0, 4), 0);
        due("holds", x.holds(0, 0), 1);
        due("rows of HOLDS", x.size(3), 1);
        due("contexts", x.contexts(1), 1);
        due("nodes", x.nodes(0), 10);
        due("solve", x.solve(), 4);
        due("points", x.points(0, 0), 3);
        due("rows of HOLDS", x.size(3), 4);
        x.accept(0, 0);
        due("solve, fewer", x.solve(), 0);
        due("nothing of the earlier solving is left", x.points(0, 4), 0);
        due("nor held", x.holds(0, 0), 0);
    }

    private static void points() {
        CHECKS.begin("promise 11");
        PointerClones x = new PointerClones();
        x.call(0, 3);
        x.call(0, 3);
        x.make(15, 7);
        x.make(3, 0);
        x.solve();
        due("points 0 15", x.points(0, 15), 128);
        due("points 1 15", x.points(1, 15), 128);
        due("points 2 15", x.points(2, 15), 0);
        due("points -1 15", x.points(-1, 15), 0);
        due("points 1 3", x.points(1, 3), 0);
        due("points 0 -1", x.points(0, -1), 0);
        due("points 0 16", x.points(0, 16), 0);
        due("points 1 -1", x.points(1, -1), 0);
        due("points 0 3", x.points(0, 3), 1);
        for (int far : FAR) {
            due("points of " + far, x.points(0, far), 0);
            due("points in " + far, x.points(far, 15), 0);
        }
    }

    private static void holds() {
        CHECKS.begin("promise 12");
        PointerClones x = new PointerClones();
        x.make(0, 7);
        x.make(1, 0);
        x.make(1, 7);
        x.store(0, 1, 1);
        due("not yet", x.holds(7, 1), 0);
        x.solve();
        due("holds 7 1", x.holds(7, 1), 0x81);
        due("holds 7 0", x.holds(7, 0), 0);
        due("holds 0 1", x.holds(0, 1), 0);
        due("holds 8 1", x.holds(8, 1), 0);
        due("holds -1 1", x.holds(-1, 1), 0);
        due("holds 7 2", x.holds(7, 2), 0);
        due("holds 7 -1", x.holds(7, -1), 0);
        due("holds 6 3", x.holds(6, 3), 0);
        due("holds 8 -1", x.holds(8, -1), 0);
        for (int far : FAR) {
            due("holds of " + far, x.holds(far, 1), 0);
            due("holds in " + far, x.holds(7, far), 0);
        }
    }

    private static void contexts() {
        CHECKS.begin("promise 13");
        PointerClones x = new PointerClones();
        x.call(2, 3);
        x.call(1, 3);
        x.call(1, 2);
        x.call(0, 1);
        x.call(0, 1);
        due("not yet", x.contexts(1), 1);
        x.solve();
        due("contexts 0", x.contexts(0), 1);
        due("contexts 1", x.contexts(1), 2);
        due("contexts 2", x.contexts(2), 2);
        due("contexts 3", x.contexts(3), 4);
        due("contexts 4", x.contexts(4), BAD);
        due("contexts -1", x.contexts(-1), BAD);
        for (int far : FAR) {
            due("contexts " + far, x.contexts(far), BAD);
        }
    }

    private static void groups() {
        CHECKS.begin("promises 10 and 13, groups");
        PointerClones x = new PointerClones();
        x.call(3, 2);
        x.call(2, 1);
        x.call(1, 3);
        x.call(0, 2);
        x.call(0, 1);
        x.call(2, 2);
        x.solve();
        due("a ring of three, called twice", x.contexts(1), 2);
        due("a ring of three, called twice", x.contexts(2), 2);
        due("a ring of three, called twice", x.contexts(3), 2);
        due("the first into the ring", x.context(3, 0), 0);
        due("the second into the ring", x.context(4, 0), 1);
        due("inside the ring", x.context(0, 1), 1);
        due("of itself", x.context(5, 1), 1);
        x.call(1, 0);
        x.solve();
        due("all are one group", x.contexts(2), 1);
        due("no call is outer", x.context(4, 0), 0);
        due("one context alone", x.context(4, 1), BAD);

        x = new PointerClones();
        x.call(3, 0);
        x.call(0, 2);
        x.call(2, 3);
        x.call(1, 2);
        x.call(1, 3);
        x.solve();
        due("a ring through method 0", x.contexts(0), 2);
        due("a ring through method 0", x.contexts(2), 2);
        due("a ring through method 0", x.contexts(3), 2);

        x = new PointerClones();
        x.call(3, 2);
        x.call(2, 3);
        x.call(1, 0);
        x.call(0, 1);
        x.call(3, 0);
        x.call(2, 1);
        x.call(2, 0);
        x.solve();
        due("a ring called by a ring", x.contexts(0), 3);
        due("a ring called by a ring", x.contexts(1), 3);
        due("the calling ring", x.contexts(2), 1);
        due("the calling ring", x.contexts(3), 1);
        due("by the last", x.context(6, 0), 2);
    }

    private static void context() {
        CHECKS.begin("promise 14");
        PointerClones x = new PointerClones();
        x.call(1, 2);
        x.call(0, 1);
        x.call(3, 2);
        x.call(0, 1);
        x.call(1, 2);
        x.call(1, 1);
        x.solve();
        due("contexts 2", x.contexts(2), 5);
        due("context 0 0", x.context(0, 0), 0);
        due("context 0 1", x.context(0, 1), 1);
        due("context 0 2", x.context(0, 2), BAD);
        due("context 1 0", x.context(1, 0), 0);
        due("context 1 1", x.context(1, 1), BAD);
        due("context 2 0", x.context(2, 0), 2);
        due("context 2 1", x.context(2, 1), BAD);
        due("context 3 0", x.context(3, 0), 1);
        due("context 4 0", x.context(4, 0), 3);
        due("context 4 1", x.context(4, 1), 4);
        due("context 5 0", x.context(5, 0), 0);
        due("context 5 1", x.context(5, 1), 1);
        due("context 5 2", x.context(5, 2), BAD);
        due("context 6 0", x.context(6, 0), BAD);
        due("context -1 0", x.context(-1, 0), BAD);
        due("context 0 -1", x.context(0, -1), BAD);
        for (int far : FAR) {
            due("context by " + far, x.context(far, 0), BAD);
            due("context of " + far, x.context(0, far), BAD);
        }
    }

    private static void contextByLatestSolving() {
        CHECKS.begin("promise 14, latest solving");
        PointerClones x = new PointerClones();
        x.call(0, 1);
        due("not solved", x.context(0, 0), BAD);
        x.solve();
        due("solved", x.context(0, 0), 0);
        x.call(2, 0);
        x.call(2, 0);
        due("a later call", x.context(1, 0), BAD);
        due("a later context", x.context(0, 1), BAD);
        x.solve();
        due("a later call, solved", x.context(2, 0), 1);
        due("a later context, solved", x.context(0, 1), 1);
    }

    private static void alias() {
        CHECKS.begin("promise 15");
        PointerClones x = new PointerClones();
        x.call(0, 1);
        x.call(0, 1);
        x.make(0, 0);
        x.make(1, 1);
        x.make(2, 0);
        x.make(2, 1);
        x.pass(0, 4, 0, false);
        x.pass(1, 4, 1, false);
        due("not solved", x.alias(0, 0, 0, 2), false);
        x.solve();
        due("0 and 2", x.alias(0, 0, 0, 2), true);
        due("2 and 1", x.alias(0, 2, 0, 1), true);
        due("0 and 1", x.alias(0, 0, 0, 1), false);
        due("with itself", x.alias(0, 0, 0, 0), true);
        due("with itself, empty", x.alias(0, 3, 0, 3), false);
        due("4 in its contexts", x.alias(0, 4, 1, 4), false);
        due("4 in one context", x.alias(1, 4, 1, 4), true);
        due("4 and 0", x.alias(0, 4, 0, 0), true);
        due("4 and 1", x.alias(0, 1, 1, 4), true);
        due("no context 2", x.alias(2, 4, 0, 2), false);
        due("no context 1 of method 0", x.alias(0, 2, 1, 2), false);
        due("no context -1", x.alias(-1, 2, 0, 2), false);
        due("no context -1", x.alias(0, 2, -1, 2), false);
        due("no variable 16", x.alias(0, 16, 0, 2), false);
        due("no variable -1", x.alias(0, 2, 0, -1), false);
        for (int far : FAR) {
            due("c " + far, x.alias(far, 2, 0, 2), false);
            due("v " + far, x.alias(0, far, 0, 2), false);
            due("d " + far, x.alias(0, 2, far, 2), false);
            due("w " + far, x.alias(0, 2, 0, far), false);
        }
    }

    private static void order() {
        CHECKS.begin("promise 16");
        PointerClones x = new PointerClones();
        for (int order = 5; order >= 0; order--) {
            due("order " + order, x.order(order), true);
            due("size 4", x.size(4), order);
        }
        x.order(3);
        due("order 6", x.order(6), false);
        due("order -1", x.order(-1), false);
        for (int far : FAR) {
            due("order " + far, x.order(far), false);
        }
        due("size 4", x.size(4), 3);
        x.solve();
        due("solving leaves the order", x.size(4), 3);
    }

    private static void nodes() {
        CHECKS.begin("promise 17");
        PointerClones x = new PointerClones();
        due("nodes -1", x.nodes(-1), BAD);
        due("nodes 2", x.nodes(2), BAD);
        for (int far : FAR) {
            due("nodes " + far, x.nodes(far), BAD);
        }
        x.make(0, 0);
        due("not solved", x.nodes(0), 0);
        x.solve();
        due("one row has a node a bit", x.nodes(0), 10);
        x.make(1, 1);
        x.solve();
        // Nodes by hand: c, v and h have 3, 4 and 3 bits; the rows are (0, 0, 0) and (0, 1, 1).
        long[] byOrder = {3 + 4 + 6, 3 + 3 + 8, 4 + 6 + 6, 4 + 6 + 3, 3 + 6 + 8, 3 + 8 + 3};
        for (int order = 0; order < 6; order++) {
            x.order(order);
            due("nodes in order " + order, x.nodes(0), byOrder[order]);
            due("asked again", x.nodes(0), byOrder[order]);
        }
        due("BAD in any order", x.nodes(2), BAD);
    }

    private static void nodesShared() {
        CHECKS.begin("promise 17, functions that are the same");
        PointerClones x = new PointerClones();
        for (int v = 0; v < 16; v++) {
            x.make(v, v % 8);
        }
        x.solve();
        // v and v + 8 have the same object, so the highest bit of v does not matter.
        int[] byOrder = {
            3 + (1 + 2 + 4) + (8 + 4 + 2), 3 + (1 + 2 + 4) + (8 + 4 + 2), (1 + 2 + 4) + 8 * 3 + (8 + 4 + 2),
            (1 + 2 + 4) + (8 + 4 + 2) + 3, (1 + 2 + 4) + 8 * 3 + (8 + 4 + 2), (1 + 2 + 4) + (8 + 4 + 2) + 3
        };
        for (int order = 0; order < 6; order++) {
            x.order(order);
            due("nodes in order " + order, x.nodes(0), byOrder[order]);
        }
        for (int v = 0; v < 8; v++) {
            x.make(v, (v + 1) % 8);
        }
        for (int v = 8; v < 16; v++) {
            x.make(v, (v + 3) % 8);
        }
        x.solve();
        int[] pairsByOrder = {44, 44, 89, 44, 65, 44};
        for (int order = 0; order < 6; order++) {
            x.order(order);
            due("nodes of pairs in order " + order, x.nodes(0), pairsByOrder[order]);
        }
    }

    private static void nodesOfHolds() {
        CHECKS.begin("promise 17, HOLDS");
        PointerClones x = new PointerClones();
        x.make(0, 0);
        x.make(1, 1);
        x.store(0, 0, 0);
        x.store(1, 1, 1);
        x.solve();
        due("rows", x.size(3), 2);
        // The rows are (0, 0, 0) and (1, 1, 1).
        long[] byOrder = {3 + 2 + 6, 3 + 6 + 2, 1 + 6 + 6, 1 + 6 + 6, 3 + 6 + 2, 3 + 2 + 6};
        for (int order = 0; order < 6; order++) {
            x.order(order);
            due("nodes in order " + order, x.nodes(1), byOrder[order]);
        }
        x.make(0, 1);
        x.make(1, 0);
        x.solve();
        due("rows", x.size(3), 8);
        // Objects 0 and 1 in all fields of 0 and 1: only the two higher bits of each object matter.
        for (int order = 0; order < 6; order++) {
            x.order(order);
            due("nodes in order " + order, x.nodes(1), 4);
        }
    }

    private static void size() {
        CHECKS.begin("promise 18");
        PointerClones x = new PointerClones();
        x.make(0, 0);
        x.copy(1, 0);
        x.store(0, 0, 1);
        x.call(0, 1);
        x.call(0, 2);
        x.call(0, 3);
        x.pass(0, 4, 0, false);
        x.pass(2, 12, 0, false);
        x.pass(2, 1, 12, true);
        x.order(4);
        due("size 0", x.size(0), 3);
        due("size 1", x.size(1), 3);
        due("size 2", x.size(2), 3);
        due("size 3, not solved", x.size(3), 0);
        x.solve();
        due("size 3", x.size(3), 1);
        due("size 4", x.size(4), 4);
        due("size 5", x.size(5), BAD);
        due("size -1", x.size(-1), BAD);
        for (int far : FAR) {
            due("size " + far, x.size(far), BAD);
        }
        x.pass(1, 8, 0, false);
        due("size 2", x.size(2), 4);

        x = new PointerClones();
        for (int call = 0; call < 8; call++) {
            x.call(0, 1);
            for (int i = 0; i < 5; i++) {
                x.pass(call, 4, 0, false);
            }
        }
        due("size 1, all there can be", x.size(1), 8);
        due("size 2, all there can be", x.size(2), 32);
    }
}
