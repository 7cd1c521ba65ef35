/**
 * The edges that promises 1 to 9 name, which tell the program: a test of its own for each sentence,
 * which stands in front of what was answered wrong.
 */
public final class TellingEdgesTest {
    private static final int BAD = PointerClones.BAD;
    private static final int FULL = PointerClones.FULL;

    private static final Checks CHECKS = new Checks("TellingEdgesTest");

    public static void main(String[] args) {
        newHasNoStatementsAndNoCalls();
        newHasEmptyRelations();
        newHasOneContextOfEveryMethod();
        newHasOrderZero();
        kindOfAnObject();
        kindOfNoSuchObject();
        noSuchKind();
        acceptedByAVariable();
        acceptedByNoSuchVariable();
        noSuchSet();
        makeCounts();
        makeIsBad();
        makeIsBadBeforeFull();
        statementsMoreThanOnce();
        copyCounts();
        copyIsBadWithoutVariable();
        copyIsBadBetweenMethods();
        copyIsBadBeforeFull();
        storeCounts();
        storeIsBadAsCopy();
        storeIsBadWithoutField();
        storeIsBadBeforeFull();
        loadCounts();
        loadIsBadAsCopy();
        loadIsBadWithoutField();
        loadIsBadBeforeFull();
        callIsItsNumber();
        callIsBad();
        callIsBadBeforeFull();
        passCounts();
        passIsBadWithoutCall();
        passIsBadWithoutVariable();
        passIsBadBetweenOtherMethods();
        passIsBadBeforeFull();
        CHECKS.end();
    }

    private static void due(String what, long got, long want) {
        CHECKS.due(what, got, want);
    }

    private static void due(String what, boolean got, boolean want) {
        CHECKS.due(what, got, want);
    }

    private static void newHasNoStatementsAndNoCalls() {
        CHECKS.begin("promise 1: No statements, no calls");
        PointerClones x = new PointerClones();
        due("statements", x.size(0), 0);
        due("calls", x.size(1), 0);
        due("passes", x.size(2), 0);
        due("no call to pass by", x.pass(0, 0, 0, false), BAD);
        due("the empty program", x.solve(), 0);
        due("no call to ask about", x.context(0, 0), BAD);
        due("the first statement", x.make(0, 0), 1);
        due("the first call", x.call(0, 0), 0);
        PointerClones other = new PointerClones();
        due("statements of another object", other.size(0), 0);
        due("calls of another object", other.size(1), 0);
    }

    private static void newHasEmptyRelations() {
        CHECKS.begin("promise 1: both relations are empty");
        PointerClones x = new PointerClones();
        for (int v = 0; v < 16; v++) {
            due("points " + v, x.points(0, v), 0);
            due("alias " + v, x.alias(0, v, 0, v), false);
        }
        for (int h = 0; h < 8; h++) {
            due("holds " + h, x.holds(h, 0), 0);
            due("holds " + h, x.holds(h, 1), 0);
        }
        due("rows of HOLDS", x.size(3), 0);
        due("nodes of POINTS", x.nodes(0), 0);
        due("nodes of HOLDS", x.nodes(1), 0);
        x.make(0, 0);
        x.store(0, 0, 0);
        due("until it is solved", x.points(0, 0), 0);
        due("until it is solved", x.size(3), 0);
    }

    private static void newHasOneContextOfEveryMethod() {
        CHECKS.begin("promise 1: every method has one context");
        PointerClones x = new PointerClones();
        for (int method = 0; method < 4; method++) {
            due("contexts " + method, x.contexts(method), 1);
        }
        x.call(0, 1);
        x.call(0, 1);
        due("until it is solved", x.contexts(1), 1);
        PointerClones unsolved = new PointerClones();
        unsolved.solve();
        for (int method = 0; method < 4; method++) {
            due("the empty program, solved, contexts " + method, unsolved.contexts(method), 1);
        }
    }

    private static void newHasOrderZero() {
        CHECKS.begin("promise 1: the order is 0");
        PointerClones x = new PointerClones();
        due("order", x.size(4), 0);
        x.call(0, 1);
        x.call(0, 1);
        x.make(0, 0);
        x.make(1, 7);
        x.pass(1, 4, 0, false);
        x.solve();
        // Rows (0, 0, 0), (0, 1, 7) and (1, 4, 0): only with the context first and the object last.
        due("nodes", x.nodes(0), 3 + 2 * 4 + 2 * 3);
        for (int order = 1; order < 6; order++) {
            x.order(order);
            due("17 nodes in order " + order, x.nodes(0) == 17, false);
        }
    }

    private static void kindOfAnObject() {
        CHECKS.begin("promise 2: Object h is of a kind");
        for (int h = 0; h < 8; h++) {
            PointerClones x = new PointerClones();
            for (int g = 0; g < 8; g++) {
                x.make(0, g);
            }
            due("kind 3 of " + h, x.kind(h, 3), true);
            x.accept(0, 8);
            x.solve();
            due("that one alone is of kind 3", x.points(0, 0), 1 << h);
            due("kind 0 again of " + h, x.kind(h, 0), true);
            due("the latest solving stays", x.points(0, 0), 1 << h);
            due("the latest kind counts", x.solve(), 0);
        }
    }

    private static void kindOfNoSuchObject() {
        CHECKS.begin("promise 2: False when there is no such object");
        PointerClones x = new PointerClones();
        for (int h : Outside.of(7)) {
            due("kind of " + h, x.kind(h, 1), false);
            due("kind of " + h, x.kind(h, 0), false);
            due("neither object nor kind", x.kind(h, h), false);
        }
        x.accept(0, 1);
        for (int h = 0; h < 8; h++) {
            x.make(0, h);
        }
        due("all are still of kind 0", x.solve(), 8);
    }

    private static void noSuchKind() {
        CHECKS.begin("promise 2: False when there is no such .. kind");
        PointerClones x = new PointerClones();
        x.kind(7, 2);
        for (int kind : Outside.of(3)) {
            due("kind " + kind, x.kind(0, kind), false);
            due("kind " + kind, x.kind(7, kind), false);
        }
        x.make(0, 0);
        x.make(0, 7);
        x.accept(0, 4);
        x.solve();
        due("the kinds are as they were", x.points(0, 0), 128);
    }

    private static void acceptedByAVariable() {
        CHECKS.begin("promise 3: Variable v accepts a set of kinds");
        for (int v = 0; v < 16; v++) {
            PointerClones x = new PointerClones();
            for (int w = 0; w < 16; w++) {
                x.make(w, 7);
            }
            due("accept nothing", x.accept(v, 0), true);
            due("that one alone has nothing", x.solve(), 15);
            due("nothing", x.points(0, v), 0);
            due("accept all", x.accept(v, 15), true);
            due("the latest solving stays", x.points(0, v), 0);
            due("the latest set counts", x.solve(), 16);
        }
    }

    private static void acceptedByNoSuchVariable() {
        CHECKS.begin("promise 3: False when there is no such variable");
        PointerClones x = new PointerClones();
        for (int v : Outside.of(15)) {
            due("accept by " + v, x.accept(v, 0), false);
            due("accept by " + v, x.accept(v, 15), false);
        }
        for (int v = 0; v < 16; v++) {
            x.make(v, 0);
        }
        due("all still accept all", x.solve(), 16);
    }

    private static void noSuchSet() {
        CHECKS.begin("promise 3: False .. when set is not 0 .. 15");
        PointerClones x = new PointerClones();
        due("accept 0", x.accept(0, 0), true);
        due("accept 15", x.accept(0, 15), true);
        due("accept 1", x.accept(0, 1), true);
        for (int set : Outside.of(15)) {
            due("accept " + set, x.accept(0, set), false);
        }
        due("accept 17", x.accept(0, 17), false);
        due("accept 31", x.accept(0, 31), false);
        due("accept -15", x.accept(0, -15), false);
        for (int kind = 0; kind < 4; kind++) {
            x.kind(kind, kind);
            x.make(0, kind);
        }
        x.solve();
        due("the set is as it was", x.points(0, 0), 1);
    }

    private static void makeCounts() {
        CHECKS.begin("promise 4: How many statements there are then");
        PointerClones x = new PointerClones();
        x.copy(0, 0);
        for (int i = 2; i <= 40; i++) {
            due("make", x.make(i % 16, i % 8), i);
            due("size", x.size(0), i);
        }
    }

    private static void makeIsBad() {
        CHECKS.begin("promise 4: BAD when there is no such variable or object");
        PointerClones x = new PointerClones();
        for (int v : Outside.of(15)) {
            due("make " + v, x.make(v, 0), BAD);
            due("make " + v, x.make(v, 7), BAD);
        }
        for (int h : Outside.of(7)) {
            due("make of " + h, x.make(0, h), BAD);
            due("make of " + h, x.make(15, h), BAD);
            due("neither variable nor object", x.make(h == 8 ? 16 : h, h), BAD);
        }
        due("size", x.size(0), 0);
        due("solve", x.solve(), 0);
    }

    private static void makeIsBadBeforeFull() {
        CHECKS.begin("promise 4: BAD ..; then FULL");
        PointerClones x = Programs.withStatements(40);
        for (int v : Outside.of(15)) {
            due("make " + v, x.make(v, 0), BAD);
        }
        for (int h : Outside.of(7)) {
            due("make of " + h, x.make(0, h), BAD);
        }
        due("make", x.make(15, 7), FULL);
        due("make of what is there", x.make(0, 0), FULL);
        due("size", x.size(0), 40);
    }

    private static void statementsMoreThanOnce() {
        CHECKS.begin("promise 4: All statements may be there more than once, and then count so");
        PointerClones x = new PointerClones();
        for (int i = 0; i < 5; i++) {
            due("make", x.make(0, 1), 4 * i + 1);
            due("copy", x.copy(1, 0), 4 * i + 2);
            due("store", x.store(0, 0, 1), 4 * i + 3);
            due("load", x.load(2, 0, 0), 4 * i + 4);
        }
        due("rows are there once", x.solve(), 3);
        due("rows of HOLDS too", x.size(3), 1);
    }

    private static void copyCounts() {
        CHECKS.begin("promise 5: How many there are then");
        PointerClones x = Programs.withStatements(1);
        for (int i = 2; i <= 40; i++) {
            int method = i % 4;
            due("copy", x.copy(method * 4 + i % 3, method * 4 + 3), i);
            due("size", x.size(0), i);
        }
    }

    private static void copyIsBadWithoutVariable() {
        CHECKS.begin("promise 5: BAD when there is no such variable");
        PointerClones x = new PointerClones();
        for (int v : Outside.of(15)) {
            due("copy to " + v, x.copy(v, 0), BAD);
            due("copy to " + v, x.copy(v, 15), BAD);
            due("copy from " + v, x.copy(0, v), BAD);
            due("copy from " + v, x.copy(15, v), BAD);
            due("copy to and from " + v, x.copy(v, v), BAD);
        }
        due("copy to and from two of a method 4", x.copy(16, 19), BAD);
        due("copy to and from two below", x.copy(-1, -3), BAD);
        due("size", x.size(0), 0);
    }

    private static void copyIsBadBetweenMethods() {
        CHECKS.begin("promise 5: BAD when .. they are of different methods");
        PointerClones x = Programs.withCalls(0, 1, 1, 0);
        for (int v = 3; v < 15; v += 4) {
            due("copy from the next", x.copy(v, v + 1), BAD);
            due("copy to the next", x.copy(v + 1, v), BAD);
            due("copy over a method", x.copy(v, (v + 4) % 16), BAD);
        }
        due("size", x.size(0), 0);
        due("copy of the same", x.copy(3, 0), 1);
        due("copy of the same", x.copy(12, 15), 2);
        due("copy of itself", x.copy(8, 8), 3);
    }

    private static void copyIsBadBeforeFull() {
        CHECKS.begin("promise 5: BAD ..; then FULL");
        PointerClones x = Programs.withStatements(40);
        due("no such variable, to", x.copy(-1, 0), BAD);
        due("no such variable, from", x.copy(15, 16), BAD);
        due("of different methods", x.copy(3, 4), BAD);
        due("copy", x.copy(3, 0), FULL);
        due("copy of itself", x.copy(15, 15), FULL);
        due("size", x.size(0), 40);
    }

    private static void storeCounts() {
        CHECKS.begin("promise 6: As copy(), how many there are then");
        PointerClones x = Programs.withStatements(1);
        for (int i = 2; i <= 40; i++) {
            int method = i % 4;
            due("store", x.store(method * 4 + i % 3, i % 2, method * 4 + 3), i);
            due("size", x.size(0), i);
        }
    }

    private static void storeIsBadAsCopy() {
        CHECKS.begin("promise 6: As copy(), BAD when there is no such variable, or they are of different methods");
        PointerClones x = new PointerClones();
        for (int v : Outside.of(15)) {
            due("store to " + v, x.store(v, 0, 0), BAD);
            due("store to " + v, x.store(v, 1, 15), BAD);
            due("store from " + v, x.store(0, 0, v), BAD);
            due("store from " + v, x.store(15, 1, v), BAD);
            due("store to and from " + v, x.store(v, 0, v), BAD);
        }
        for (int v = 3; v < 15; v += 4) {
            due("store from the next", x.store(v, 0, v + 1), BAD);
            due("store to the next", x.store(v + 1, 0, v), BAD);
        }
        due("size", x.size(0), 0);
    }

    private static void storeIsBadWithoutField() {
        CHECKS.begin("promise 6: BAD also when there is no such field");
        PointerClones x = new PointerClones();
        for (int f : Outside.of(1)) {
            due("store to field " + f, x.store(0, f, 1), BAD);
            due("store to field " + f, x.store(15, f, 15), BAD);
        }
        due("field and variable in each other's place", x.store(0, 3, 1), BAD);
        due("field 0", x.store(0, 0, 3), 1);
        due("field 1", x.store(0, 1, 3), 2);
        due("size", x.size(0), 2);
    }

    private static void storeIsBadBeforeFull() {
        CHECKS.begin("promise 6: As copy(), BAD ..; then FULL");
        PointerClones x = Programs.withStatements(40);
        due("no such variable, to", x.store(16, 0, 15), BAD);
        due("no such variable, from", x.store(0, 0, -1), BAD);
        due("of different methods", x.store(3, 0, 4), BAD);
        due("no such field above", x.store(0, 2, 0), BAD);
        due("no such field below", x.store(0, -1, 0), BAD);
        due("store", x.store(0, 1, 3), FULL);
        due("size", x.size(0), 40);
        x.solve();
        due("nothing is held", x.size(3), 0);
    }

    private static void loadCounts() {
        CHECKS.begin("promise 7: As store(), how many there are then");
        PointerClones x = Programs.withStatements(1);
        for (int i = 2; i <= 40; i++) {
            int method = i % 4;
            due("load", x.load(method * 4 + i % 3, method * 4 + 3, i % 2), i);
            due("size", x.size(0), i);
        }
    }

    private static void loadIsBadAsCopy() {
        CHECKS.begin("promise 7: As store(), BAD when there is no such variable, or they are of different methods");
        PointerClones x = new PointerClones();
        for (int v : Outside.of(15)) {
            due("load to " + v, x.load(v, 0, 0), BAD);
            due("load to " + v, x.load(v, 15, 1), BAD);
            due("load from " + v, x.load(0, v, 0), BAD);
            due("load from " + v, x.load(15, v, 1), BAD);
            due("load to and from " + v, x.load(v, v, 0), BAD);
        }
        for (int v = 3; v < 15; v += 4) {
            due("load from the next", x.load(v, v + 1, 0), BAD);
            due("load to the next", x.load(v + 1, v, 0), BAD);
        }
        due("size", x.size(0), 0);
    }

    private static void loadIsBadWithoutField() {
        CHECKS.begin("promise 7: As store(), BAD also when there is no such field");
        PointerClones x = new PointerClones();
        for (int f : Outside.of(1)) {
            due("load from field " + f, x.load(0, 1, f), BAD);
            due("load from field " + f, x.load(15, 15, f), BAD);
        }
        due("field and variable in each other's place", x.load(0, 1, 3), BAD);
        due("field 0", x.load(0, 3, 0), 1);
        due("field 1", x.load(0, 3, 1), 2);
        due("size", x.size(0), 2);
    }

    private static void loadIsBadBeforeFull() {
        CHECKS.begin("promise 7: As store(), BAD ..; then FULL");
        PointerClones x = Programs.withStatements(38);
        x.store(0, 1, 0);
        x.store(0, 0, 0);
        due("no such variable, to", x.load(16, 15, 0), BAD);
        due("no such variable, from", x.load(0, -1, 0), BAD);
        due("of different methods", x.load(3, 4, 0), BAD);
        due("no such field above", x.load(0, 0, 2), BAD);
        due("no such field below", x.load(0, 0, -1), BAD);
        due("load", x.load(3, 0, 1), FULL);
        due("size", x.size(0), 40);
        due("nothing is loaded", x.solve(), 1);
    }

    private static void callIsItsNumber() {
        CHECKS.begin("promise 8: Its number");
        PointerClones x = new PointerClones();
        for (int i = 0; i < 8; i++) {
            due("call", x.call(i / 2, 3 - i / 2), i);
            due("size", x.size(1), i + 1);
        }
        x = new PointerClones();
        for (int i = 0; i < 8; i++) {
            due("the same again", x.call(3, 3), i);
        }
    }

    private static void callIsBad() {
        CHECKS.begin("promise 8: BAD when there is no such method");
        PointerClones x = new PointerClones();
        for (int method : Outside.of(3)) {
            due("call by " + method, x.call(method, 0), BAD);
            due("call by " + method, x.call(method, 3), BAD);
            due("call of " + method, x.call(0, method), BAD);
            due("call of " + method, x.call(3, method), BAD);
            due("call by and of " + method, x.call(method, method), BAD);
        }
        due("size", x.size(1), 0);
        due("the next good one", x.call(3, 0), 0);
    }

    private static void callIsBadBeforeFull() {
        CHECKS.begin("promise 8: BAD ..; then FULL");
        PointerClones x = Programs.withEightContexts();
        for (int method : Outside.of(3)) {
            due("call by " + method, x.call(method, 0), BAD);
            due("call of " + method, x.call(0, method), BAD);
        }
        due("call", x.call(0, 1), FULL);
        due("another call", x.call(2, 3), FULL);
        due("call of itself", x.call(3, 3), FULL);
        due("size", x.size(1), 8);
        due("the calls that are there are solved", x.solve(), 0);
        due("contexts", x.contexts(1), 8);
        due("contexts of one called too late", x.contexts(3), 1);
    }

    private static void passCounts() {
        CHECKS.begin("promise 9: How many the call has then");
        PointerClones x = Programs.withCalls(0, 1, 0, 1);
        due("the first", x.pass(1, 4, 0, false), 1);
        due("the first of another", x.pass(0, 4, 0, false), 1);
        due("the second, back", x.pass(1, 0, 7, true), 2);
        due("the third, the same as the first", x.pass(1, 4, 0, false), 3);
        due("the second of another", x.pass(0, 5, 3, false), 2);
        due("the fourth", x.pass(1, 7, 3, false), 4);
        due("size", x.size(2), 6);
    }

    private static void passIsBadWithoutCall() {
        CHECKS.begin("promise 9: BAD when there is no such call");
        PointerClones x = new PointerClones();
        due("no call at all", x.pass(0, 0, 0, false), BAD);
        due("no call at all, back", x.pass(0, 0, 0, true), BAD);
        for (int calls = 1; calls <= 8; calls++) {
            x.call(0, 0);
            due("by the last", x.pass(calls - 1, 1, 0, false), 1);
            due("by the next", x.pass(calls, 1, 0, false), BAD);
            due("by the next, back", x.pass(calls, 1, 0, true), BAD);
        }
        for (int call : Outside.of(7)) {
            due("by " + call, x.pass(call, 1, 0, false), BAD);
            due("by " + call + ", back", x.pass(call, 1, 0, true), BAD);
        }
        due("size", x.size(2), 8);
    }

    private static void passIsBadWithoutVariable() {
        CHECKS.begin("promise 9: BAD when there is no such .. variable");
        PointerClones x = Programs.withCalls(0, 3, 3, 0);
        for (int v : Outside.of(15)) {
            due("to " + v, x.pass(0, v, 0, false), BAD);
            due("from " + v, x.pass(0, 15, v, false), BAD);
            due("to " + v + ", back", x.pass(0, v, 15, true), BAD);
            due("from " + v + ", back", x.pass(0, 0, v, true), BAD);
            due("to " + v + " of 0", x.pass(1, v, 15, false), BAD);
            due("from " + v + " of 3", x.pass(1, 0, v, false), BAD);
            due("to " + v + " of 3, back", x.pass(1, v, 0, true), BAD);
            due("from " + v + " of 0, back", x.pass(1, 15, v, true), BAD);
        }
        due("size", x.size(2), 0);
    }

    private static void passIsBadBetweenOtherMethods() {
        CHECKS.begin("promise 9: BAD when .. they are not of the methods that they must be of");
        for (int v = 0; v < 16; v++) {
            PointerClones forth = Programs.withCalls(1, 2);
            PointerClones back = Programs.withCalls(1, 2);
            int passedForth = 0;
            int passedBack = 0;
            for (int w = 0; w < 16; w++) {
                boolean good = v / 4 == 2 && w / 4 == 1;
                passedForth += good ? 1 : 0;
                due("from " + w + " to " + v, forth.pass(0, v, w, false), good ? passedForth : BAD);
                boolean goodBack = v / 4 == 1 && w / 4 == 2;
                passedBack += goodBack ? 1 : 0;
                due("back from " + w + " to " + v, back.pass(0, v, w, true), goodBack ? passedBack : BAD);
            }
        }
    }

    private static void passIsBadBeforeFull() {
        CHECKS.begin("promise 9: BAD ..; then FULL");
        PointerClones x = Programs.withCalls(0, 1, 0, 1);
        for (int i = 0; i < 4; i++) {
            x.pass(0, 4 + i, i, false);
        }
        due("no such call", x.pass(2, 4, 0, false), BAD);
        due("no such variable, to", x.pass(0, 16, 0, false), BAD);
        due("no such variable, from", x.pass(0, 4, -1, false), BAD);
        due("not to the called method", x.pass(0, 3, 0, false), BAD);
        due("not from the calling method", x.pass(0, 4, 4, false), BAD);
        due("not back to the calling method", x.pass(0, 4, 4, true), BAD);
        due("not back from the called method", x.pass(0, 0, 0, true), BAD);
        due("the fifth", x.pass(0, 4, 3, false), FULL);
        due("the fifth, back", x.pass(0, 3, 4, true), FULL);
        due("the other call has room", x.pass(1, 4, 3, false), 1);
        due("size", x.size(2), 5);
    }
}
