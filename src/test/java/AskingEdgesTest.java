/**
 * The edges that promises 10 to 18 name, which solve and ask: a test of its own for each sentence,
 * which stands in front of what was answered wrong.
 */
public final class AskingEdgesTest {
    private static final int BAD = PointerClones.BAD;
    private static final int TOO_MANY = PointerClones.TOO_MANY;

    private static final Checks CHECKS = new Checks("AskingEdgesTest");

    public static void main(String[] args) {
        solveTakesAllThatThereIs();
        solveGoesOnToTheEnd();
        solveTakesNothingOfBefore();
        solvingStaysUntilTheNextTime();
        solvingStaysWhenTheOrderIsSet();
        solveCountsRows();
        solveOfTheMostRows();
        tooManyLeavesTheLatestSolving();
        tooManyLeavesANewObject();
        tooManyLeavesWhatWasTold();
        tooManyAgainAndThenNot();
        pointsAsBits();
        pointsByTheLatestSolving();
        pointsOfNoSuchVariable();
        pointsInNoSuchContext();
        holdsAsBits();
        holdsByTheLatestSolving();
        holdsOfNoSuchObject();
        holdsInNoSuchField();
        contextsByTheLatestSolving();
        contextsOfNoSuchMethod();
        contextByTheLatestSolving();
        contextByNoSuchCall();
        contextByACallThatWasNotThereThen();
        noSuchContextOfTheCallingMethod();
        contextThatWasNotThereThen();
        aliasOfTheSameObject();
        aliasInContexts();
        aliasOfNoSuchVariable();
        aliasInNoSuchContext();
        orderIsSet();
        orderIsFalse();
        nodesInTheOrderThatIsSet();
        nodesByTheLatestSolving();
        nodesIsBad();
        sizeOfStatements();
        sizeOfCalls();
        sizeOfPasses();
        sizeOfHolds();
        sizeIsTheOrder();
        sizeIsBad();
        CHECKS.end();
    }

    private static void due(String what, long got, long want) {
        CHECKS.due(what, got, want);
    }

    private static void due(String what, boolean got, boolean want) {
        CHECKS.due(what, got, want);
    }

    private interface Telling {
        void tell(PointerClones x);
    }

    private static void solveTakesAllThatThereIs() {
        CHECKS.begin("promise 10: Works out contexts and both relations of all that there is now");
        PointerClones x = new PointerClones();
        due("nothing", x.solve(), 0);
        x.make(0, 0);
        due("a NEW", x.solve(), 1);
        x.copy(1, 0);
        due("a COPY", x.solve(), 2);
        x.store(0, 1, 1);
        due("a STORE", x.solve(), 2);
        due("a STORE", x.size(3), 1);
        x.load(2, 1, 1);
        due("a LOAD", x.solve(), 3);
        x.call(0, 1);
        x.call(0, 1);
        due("calls", x.solve(), 3);
        due("calls", x.contexts(1), 2);
        x.pass(1, 4, 2, false);
        due("a pass", x.solve(), 4);
        x.pass(1, 3, 4, true);
        due("a pass back", x.solve(), 5);
        x.kind(0, 3);
        x.accept(3, 7);
        due("a kind and a set", x.solve(), 4);
        due("nothing new", x.solve(), 4);
    }

    private static void solveGoesOnToTheEnd() {
        CHECKS.begin("promise 10: Works out .. both relations, however long the way");
        // Told from the end to the start: object 0 goes from variable 0 through all methods to 14,
        // only then is object 1 held, and loaded into variable 0, and goes the same way.
        PointerClones x = Programs.withCalls(2, 3, 1, 2, 0, 1);
        x.load(0, 3, 0);
        x.store(14, 0, 15);
        for (int method = 3; method >= 0; method--) {
            x.copy(method * 4 + 2, method * 4 + 1);
            x.copy(method * 4 + 1, method * 4);
        }
        for (int call = 0; call < 3; call++) {
            int calling = 2 - call;
            x.pass(call, calling * 4 + 4, calling * 4 + 2, false);
        }
        x.make(15, 1);
        x.make(3, 0);
        x.make(0, 0);
        due("solve", x.solve(), 12 * 2 + 2);
        due("the end of the way", x.points(0, 14), 3);
        due("held at first", x.holds(0, 0), 2);
        due("held at last", x.holds(1, 0), 2);
    }

    private static void solveTakesNothingOfBefore() {
        CHECKS.begin("promise 10: Works out .. of all that there is now, and of nothing that was");
        PointerClones x = Programs.withCalls(0, 1, 0, 1, 0, 1);
        x.make(4, 0);
        x.store(4, 0, 4);
        due("solve", x.solve(), 3);
        x.call(1, 0);
        due("one group, one context", x.solve(), 1);
        due("no second context", x.points(1, 4), 0);
        due("nor by a call", x.context(2, 0), 0);
        due("no nodes for it", x.nodes(0), 10);
        x.accept(4, 14);
        due("not accepted any more", x.solve(), 0);
        due("not held any more", x.holds(0, 0), 0);
        due("no nodes", x.nodes(1), 0);
        x.kind(0, 3);
        due("of a kind that is accepted", x.solve(), 1);
        due("held again", x.holds(0, 0), 1);
    }

    private static void solvingStaysUntilTheNextTime() {
        CHECKS.begin("promise 10: they stay until the next time");
        stays("kind", x -> x.kind(0, 3));
        stays("accept", x -> x.accept(0, 0));
        stays("make", x -> x.make(0, 6));
        stays("copy", x -> x.copy(1, 0));
        stays("store", x -> x.store(1, 0, 0));
        stays("load", x -> x.load(1, 0, 1));
        stays("call", x -> x.call(0, 2));
        stays("call into the other end", x -> x.call(2, 0));
        stays("pass", x -> x.pass(0, 5, 0, false));
        stays("pass back", x -> x.pass(0, 1, 4, true));
    }

    private static void stays(String what, Telling telling) {
        PointerClones x = Programs.withCalls(0, 1, 0, 1, 1, 2);
        x.accept(0, 7);
        x.make(0, 0);
        x.make(0, 1);
        x.make(1, 2);
        x.store(0, 1, 0);
        x.pass(0, 4, 0, false);
        x.solve();
        String before = Seen.solving(x);
        telling.tell(x);
        CHECKS.due("what was solved, then " + what, Seen.solving(x), before);
        x.solve();
        due("solved again it is other, " + what, Seen.solving(x).equals(before), false);
    }

    private static void solvingStaysWhenTheOrderIsSet() {
        CHECKS.begin("promise 10: they stay until the next time, whatever the order");
        PointerClones x = Programs.withSomeOfAll();
        x.order(0);
        String before = Seen.solving(x);
        x.order(5);
        x.nodes(0);
        x.nodes(1);
        x.order(0);
        CHECKS.due("what was solved", Seen.solving(x), before);
    }

    private static void solveCountsRows() {
        CHECKS.begin("promise 10: How many rows POINTS has");
        due("the empty program", new PointerClones().solve(), 0);
        PointerClones x = Programs.withSomeOfAll();
        int rows = x.solve();
        int counted = 0;
        for (int v = 0; v < 16; v++) {
            for (int c = 0; c < 8; c++) {
                counted += Integer.bitCount(x.points(c, v));
            }
        }
        due("rows", rows, counted);
        due("rows, counted by hand", rows, (2 + 1 + 2 + 3) + (2 + 2) + 2 + 2);
    }

    private static void solveOfTheMostRows() {
        CHECKS.begin("promise 10: How many rows POINTS has, when it has the most");
        // One, four, eight and eight contexts; no eight calls bring more in all.
        PointerClones x = Programs.withCalls(0, 1, 0, 1, 0, 1, 0, 1, 1, 2, 1, 2, 2, 3);
        for (int h = 0; h < 8; h++) {
            x.make(0, h);
        }
        for (int method = 0; method < 4; method++) {
            for (int i = 1; i < 4; i++) {
                x.copy(method * 4 + i, method * 4);
            }
        }
        for (int call = 0; call < 7; call++) {
            int calling = call < 4 ? 0 : call < 6 ? 1 : 2;
            x.pass(call, calling * 4 + 4, calling * 4, false);
        }
        x.store(0, 0, 0);
        x.store(0, 1, 0);
        due("solve", x.solve(), (1 + 4 + 8 + 8) * 4 * 8);
        due("the last row", x.points(7, 15), 255);
        due("the last of method 1", x.points(3, 7), 255);
        due("no more of method 1", x.points(4, 7), 0);
        due("all rows of HOLDS", x.size(3), 8 * 2 * 8);
        x.order(3);
        // Two bits of the variable tell its method; all bits of the context matter below 1, one below 4.
        due("nodes", x.nodes(0), 2 + (3 + 1));
    }

    private static void tooManyLeavesTheLatestSolving() {
        CHECKS.begin("promise 10: TOO_MANY (then all stays as it was), the latest solving");
        PointerClones x = Programs.withCalls(0, 1, 0, 1, 1, 2);
        x.make(0, 0);
        x.make(4, 1);
        x.store(4, 0, 4);
        x.pass(1, 5, 0, false);
        x.solve();
        x.order(2);
        String before = Seen.solving(x);
        x.call(3, 0);
        x.call(3, 0);
        x.call(3, 0);
        x.call(2, 1);
        x.make(0, 7);
        x.store(0, 1, 0);
        x.accept(4, 0);
        x.kind(0, 2);
        x.call(0, 2);
        String told = Seen.all(x);
        due("3 + 3 + 3", x.solve(), TOO_MANY);
        CHECKS.due("what was solved", Seen.solving(x), before);
        CHECKS.due("all", Seen.all(x), told);
    }

    private static void tooManyLeavesANewObject() {
        CHECKS.begin("promise 10: TOO_MANY (then all stays as it was), nothing solved before");
        PointerClones x = Programs.withCalls(0, 1, 0, 1, 0, 1, 1, 2, 1, 2, 1, 2);
        x.make(0, 0);
        x.store(0, 0, 0);
        String before = Seen.solving(x);
        due("nine", x.solve(), TOO_MANY);
        CHECKS.due("as in a new object", Seen.solving(x), before);
        due("no call yet", x.context(0, 0), BAD);
        due("one context yet", x.contexts(1), 1);
        due("no row yet", x.points(0, 0), 0);
    }

    private static void tooManyLeavesWhatWasTold() {
        CHECKS.begin("promise 10: TOO_MANY (then all stays as it was), what was told");
        PointerClones x = tooMany();
        PointerClones twin = tooMany();
        due("nine", x.solve(), TOO_MANY);
        x.call(2, 0);
        twin.call(2, 0);
        due("one group", x.solve(), 2 + 1 + 1);
        due("as if it had not been tried", twin.solve(), 2 + 1 + 1);
        CHECKS.due("all", Seen.all(x), Seen.all(twin));
    }

    private static PointerClones tooMany() {
        PointerClones x = Programs.withCalls(0, 1, 0, 1, 0, 1, 1, 2, 1, 2, 1, 2);
        x.kind(1, 1);
        x.accept(4, 2);
        x.make(0, 0);
        x.make(0, 1);
        x.pass(0, 4, 0, false);
        x.pass(5, 8, 4, false);
        x.store(0, 1, 0);
        x.order(1);
        return x;
    }

    private static void tooManyAgainAndThenNot() {
        CHECKS.begin("promise 10: TOO_MANY, and again, until a group has no more than eight");
        PointerClones x = tooMany();
        for (int i = 0; i < 3; i++) {
            due("nine", x.solve(), TOO_MANY);
        }
        x.call(2, 1);
        due("methods 1 and 2 are one group now", x.solve(), 2 + 1 + 1);
        due("contexts 1", x.contexts(1), 3);
        due("contexts 2", x.contexts(2), 3);
    }

    private static void pointsAsBits() {
        CHECKS.begin("promise 11: The objects, as bits");
        PointerClones x = new PointerClones();
        for (int h = 0; h < 8; h++) {
            x.make(h, h);
            x.make(15, h);
        }
        x.solve();
        for (int h = 0; h < 8; h++) {
            due("object " + h, x.points(0, h), 1 << h);
        }
        due("no object", x.points(0, 14), 0);
        due("all objects", x.points(0, 15), 255);
    }

    private static void pointsByTheLatestSolving() {
        CHECKS.begin("promise 11: by the latest solving");
        PointerClones x = Programs.withStatements(1);
        due("not solved", x.points(0, 0), 0);
        x.solve();
        x.make(0, 1);
        x.make(4, 1);
        due("told later", x.points(0, 0), 1);
        due("told later", x.points(0, 4), 0);
        x.call(1, 0);
        x.call(1, 0);
        due("a context that was not there", x.points(1, 0), 0);
        x.solve();
        due("solved again", x.points(0, 0), 3);
        due("a context that is there now", x.points(1, 0), 3);
    }

    /** Every variable has every object in every context; method 1 has two contexts, 3 has eight. */
    private static PointerClones everything() {
        PointerClones x = Programs.withCalls(0, 1, 0, 1, 1, 3, 1, 3, 1, 3, 1, 3);
        for (int h = 0; h < 8; h++) {
            x.make(0, h);
        }
        for (int v = 0; v < 16; v++) {
            if (v % 4 != 0) {
                x.copy(v, v / 4 * 4);
            }
        }
        for (int call = 0; call < 6; call++) {
            x.pass(call, call < 2 ? 4 : 12, call < 2 ? 0 : 4, false);
        }
        x.store(0, 0, 0);
        x.store(0, 1, 0);
        x.solve();
        return x;
    }

    private static void pointsOfNoSuchVariable() {
        CHECKS.begin("promise 11: 0 when there is no such variable");
        PointerClones x = everything();
        due("the first", x.points(0, 0), 255);
        due("the last", x.points(7, 15), 255);
        for (int v : Outside.of(15)) {
            due("of " + v + " in 0", x.points(0, v), 0);
            due("of " + v + " in 1", x.points(1, v), 0);
            due("of " + v + " in 7", x.points(7, v), 0);
        }
    }

    private static void pointsInNoSuchContext() {
        CHECKS.begin("promise 11: 0 when there is no such .. context");
        PointerClones x = everything();
        due("the last of method 0", x.points(0, 3), 255);
        due("one more of method 0", x.points(1, 3), 0);
        due("the last of method 1", x.points(1, 4), 255);
        due("one more of method 1", x.points(2, 4), 0);
        due("the last of method 3", x.points(7, 12), 255);
        for (int c : Outside.of(7)) {
            due("of the first in " + c, x.points(c, 0), 0);
            due("of method 1 in " + c, x.points(c, 7), 0);
            due("of the last in " + c, x.points(c, 15), 0);
        }
    }

    private static void holdsAsBits() {
        CHECKS.begin("promise 12: The objects, as bits");
        PointerClones x = new PointerClones();
        x.make(0, 0);
        x.make(1, 7);
        x.store(0, 0, 1);
        x.store(1, 1, 0);
        x.store(1, 1, 1);
        x.solve();
        due("the first", x.holds(0, 0), 128);
        due("the last", x.holds(7, 1), 129);
        due("the other field", x.holds(0, 1), 0);
        due("the other field", x.holds(7, 0), 0);
        due("between", x.holds(3, 0), 0);
    }

    private static void holdsByTheLatestSolving() {
        CHECKS.begin("promise 12: by the latest solving");
        PointerClones x = Programs.withStatements(1);
        x.store(0, 0, 0);
        due("not solved", x.holds(0, 0), 0);
        x.solve();
        x.store(0, 1, 0);
        x.make(0, 1);
        due("told later", x.holds(0, 1), 0);
        due("told later", x.holds(0, 0), 1);
        x.solve();
        due("solved again", x.holds(0, 1), 3);
        due("solved again", x.holds(1, 0), 3);
    }

    private static void holdsOfNoSuchObject() {
        CHECKS.begin("promise 12: 0 when there is no such object");
        PointerClones x = everything();
        due("the first", x.holds(0, 0), 255);
        due("the last", x.holds(7, 1), 255);
        for (int h : Outside.of(7)) {
            due("field 0 of " + h, x.holds(h, 0), 0);
            due("field 1 of " + h, x.holds(h, 1), 0);
        }
    }

    private static void holdsInNoSuchField() {
        CHECKS.begin("promise 12: 0 when there is no such .. field");
        PointerClones x = everything();
        for (int f : Outside.of(1)) {
            due("field " + f + " of the first", x.holds(0, f), 0);
            due("field " + f + " of another", x.holds(3, f), 0);
            due("field " + f + " of the last", x.holds(7, f), 0);
        }
    }

    private static void contextsByTheLatestSolving() {
        CHECKS.begin("promise 13: How many contexts a method has, by the latest solving");
        PointerClones x = Programs.withCalls(0, 3, 0, 3);
        due("not solved", x.contexts(3), 1);
        x.solve();
        due("solved", x.contexts(3), 2);
        x.call(0, 3);
        x.call(1, 0);
        x.call(1, 0);
        due("told later", x.contexts(3), 2);
        due("told later", x.contexts(0), 1);
        x.solve();
        due("solved again", x.contexts(3), 6);
        due("solved again", x.contexts(0), 2);
        x.call(3, 1);
        due("a ring, told later", x.contexts(3), 6);
        x.solve();
        due("a ring, solved", x.contexts(3), 1);
    }

    private static void contextsOfNoSuchMethod() {
        CHECKS.begin("promise 13: BAD when there is no such method");
        PointerClones x = new PointerClones();
        PointerClones solved = everything();
        due("the last", solved.contexts(3), 8);
        due("the first", solved.contexts(0), 1);
        for (int method : Outside.of(3)) {
            due("contexts " + method, x.contexts(method), BAD);
            due("contexts " + method + ", solved", solved.contexts(method), BAD);
        }
    }

    private static void contextByTheLatestSolving() {
        CHECKS.begin("promise 14: What context c of its calling method is by a call, by the latest solving");
        PointerClones x = Programs.withCalls(0, 1, 2, 1);
        x.solve();
        due("the second of two", x.context(1, 0), 1);
        x.call(3, 0);
        x.call(3, 0);
        due("more contexts before it, told later", x.context(1, 0), 1);
        x.solve();
        due("more contexts before it, solved", x.context(1, 0), 2);
        x.call(1, 0);
        due("no more outer before it, told later", x.context(1, 0), 2);
        x.solve();
        due("by the one that is not outer now", x.context(0, 2), 2);
        due("the first outer one now", x.context(1, 0), 0);
    }

    private static void contextByNoSuchCall() {
        CHECKS.begin("promise 14: BAD when there was no such call");
        PointerClones x = new PointerClones();
        due("no call at all", x.context(0, 0), BAD);
        x = Programs.withEightContexts();
        x.solve();
        due("the first", x.context(0, 0), 0);
        due("the last", x.context(7, 0), 7);
        for (int call : Outside.of(7)) {
            due("by " + call, x.context(call, 0), BAD);
        }
        x = Programs.withCalls(0, 1, 0, 1, 0, 1);
        x.solve();
        due("the last of three", x.context(2, 0), 2);
        due("the next after three", x.context(3, 0), BAD);
        due("the last that there could be", x.context(7, 0), BAD);
    }

    private static void contextByACallThatWasNotThereThen() {
        CHECKS.begin("promise 14: BAD when there was no such call .. then");
        PointerClones x = new PointerClones();
        for (int call = 0; call < 8; call++) {
            x.call(0, 1);
            due("told, call " + call, x.context(call, 0), BAD);
            x.solve();
            due("solved, call " + call, x.context(call, 0), call);
        }
    }

    private static void noSuchContextOfTheCallingMethod() {
        CHECKS.begin("promise 14: BAD when there was no such .. context");
        PointerClones x = Programs.withCalls(0, 1, 0, 1, 0, 1, 0, 1, 1, 2, 1, 2, 2, 3, 3, 3);
        x.solve();
        int[] contextsOfCalling = {1, 1, 1, 1, 4, 4, 8, 8};
        int[] first = {0, 1, 2, 3, 0, 4, 0, 0};
        for (int call = 0; call < 8; call++) {
            int last = contextsOfCalling[call] - 1;
            due("the last by " + call, x.context(call, last), first[call] + last);
            for (int c : Outside.of(last)) {
                due("context " + c + " by " + call, x.context(call, c), BAD);
            }
        }
    }

    private static void contextThatWasNotThereThen() {
        CHECKS.begin("promise 14: BAD when there was no such .. context then");
        PointerClones x = Programs.withCalls(0, 1);
        x.solve();
        x.call(2, 0);
        x.call(2, 0);
        due("told", x.context(0, 1), BAD);
        x.solve();
        due("solved", x.context(0, 1), 1);
        due("no third", x.context(0, 2), BAD);
        x.call(1, 2);
        due("it goes, told", x.context(0, 1), 1);
        x.solve();
        due("it is gone, solved", x.context(0, 1), BAD);
    }

    private static void aliasOfTheSameObject() {
        CHECKS.begin("promise 15: Whether variables v and w may point to the same object");
        PointerClones x = new PointerClones();
        x.make(0, 0);
        x.make(0, 7);
        x.make(4, 7);
        x.make(4, 3);
        x.make(15, 0);
        due("not solved", x.alias(0, 0, 0, 4), false);
        x.solve();
        due("the last object alone", x.alias(0, 0, 0, 4), true);
        due("the first object alone", x.alias(0, 15, 0, 0), true);
        due("no object", x.alias(0, 4, 0, 15), false);
        due("itself", x.alias(0, 15, 0, 15), true);
        due("itself, without objects", x.alias(0, 1, 0, 1), false);
        due("one without objects", x.alias(0, 0, 0, 1), false);
        x.make(15, 3);
        due("told later", x.alias(0, 4, 0, 15), false);
        x.solve();
        due("solved again", x.alias(0, 4, 0, 15), true);
    }

    private static void aliasInContexts() {
        CHECKS.begin("promise 15: v in context c, w in context d");
        PointerClones x = Programs.withEightContexts();
        x.make(0, 0);
        x.make(1, 1);
        x.pass(0, 4, 0, false);
        x.pass(7, 4, 1, false);
        x.pass(7, 7, 0, false);
        x.solve();
        due("the first and the last", x.alias(0, 4, 7, 4), false);
        due("the last and the first", x.alias(7, 4, 0, 4), false);
        due("another variable in the last", x.alias(0, 4, 7, 7), true);
        due("the same in one context", x.alias(7, 4, 7, 7), false);
        due("the calling one", x.alias(0, 1, 7, 4), true);
        due("the calling one, in the other's context", x.alias(0, 0, 7, 4), false);
    }

    private static void aliasOfNoSuchVariable() {
        CHECKS.begin("promise 15: false when there is no such variable");
        PointerClones x = everything();
        due("the first and the last", x.alias(0, 0, 7, 15), true);
        for (int v : Outside.of(15)) {
            due("v " + v, x.alias(0, v, 0, 0), false);
            due("v " + v + " in context 1", x.alias(1, v, 7, 15), false);
            due("w " + v, x.alias(0, 0, 0, v), false);
            due("w " + v + " in context 1", x.alias(7, 15, 1, v), false);
            due("both " + v, x.alias(0, v, 0, v), false);
        }
    }

    private static void aliasInNoSuchContext() {
        CHECKS.begin("promise 15: false when there is no such .. context");
        PointerClones x = everything();
        due("the last of method 1", x.alias(1, 4, 0, 0), true);
        due("one more of method 1", x.alias(2, 4, 0, 0), false);
        due("one more of method 1 on the right", x.alias(0, 0, 2, 4), false);
        due("one more of method 0", x.alias(1, 0, 0, 0), false);
        due("one more of method 0 on the right", x.alias(1, 4, 1, 0), false);
        for (int c : Outside.of(7)) {
            due("c " + c, x.alias(c, 15, 7, 15), false);
            due("d " + c, x.alias(7, 15, c, 15), false);
            due("both " + c, x.alias(c, 15, c, 15), false);
        }
    }

    private static void orderIsSet() {
        CHECKS.begin("promise 16: Sets the order");
        PointerClones x = new PointerClones();
        for (int i = 0; i < 12; i++) {
            int order = i * 5 % 6;
            due("order " + order, x.order(order), true);
            due("size 4", x.size(4), order);
        }
        due("order 5", x.order(5), true);
        due("the same again", x.order(5), true);
        x.solve();
        due("solving leaves it", x.size(4), 5);
    }

    private static void orderIsFalse() {
        CHECKS.begin("promise 16: False when it is not 0 .. 5");
        PointerClones x = new PointerClones();
        for (int order : Outside.of(5)) {
            due("order " + order, x.order(order), false);
            due("size 4", x.size(4), 0);
        }
        x.order(5);
        for (int order : Outside.of(5)) {
            due("order " + order, x.order(order), false);
            due("size 4", x.size(4), 5);
        }
    }

    private static void nodesInTheOrderThatIsSet() {
        CHECKS.begin("promise 17: in the order that is set");
        PointerClones x = Programs.withStatements(1);
        x.make(1, 1);
        x.order(4);
        x.solve();
        due("set before solving", x.nodes(0), 17);
        x.order(0);
        due("set after solving", x.nodes(0), 13);
        x.order(6);
        due("not set", x.nodes(0), 13);
        x.order(2);
        due("set again", x.nodes(0), 16);
        due("asked again", x.nodes(0), 16);
        due("HOLDS between", x.nodes(1), 0);
        due("and again", x.nodes(0), 16);
    }

    private static void nodesByTheLatestSolving() {
        CHECKS.begin("promise 17: How many nodes the diagram .. has, from none on");
        PointerClones x = Programs.withStatements(1);
        x.store(0, 0, 0);
        due("POINTS, not solved", x.nodes(0), 0);
        due("HOLDS, not solved", x.nodes(1), 0);
        x.solve();
        due("POINTS, one row", x.nodes(0), 10);
        due("HOLDS, one row", x.nodes(1), 7);
        x.make(0, 1);
        due("POINTS, told later", x.nodes(0), 10);
        due("HOLDS, told later", x.nodes(1), 7);
        x.solve();
        due("POINTS, the object's last bit is free", x.nodes(0), 9);
        due("HOLDS, both objects' last bit is free", x.nodes(1), 5);
        x.accept(0, 0);
        x.solve();
        due("POINTS, none again", x.nodes(0), 0);
        due("HOLDS, none again", x.nodes(1), 0);
    }

    private static void nodesIsBad() {
        CHECKS.begin("promise 17: BAD when which is neither");
        PointerClones x = new PointerClones();
        PointerClones solved = everything();
        for (int which : Outside.of(1)) {
            due("nodes " + which, x.nodes(which), BAD);
            due("nodes " + which + ", solved", solved.nodes(which), BAD);
        }
    }

    private static void sizeOfStatements() {
        CHECKS.begin("promise 18: 0 the statements");
        PointerClones x = new PointerClones();
        due("none", x.size(0), 0);
        x.make(0, 0);
        x.copy(0, 0);
        x.store(0, 0, 0);
        x.load(0, 0, 0);
        due("one of each", x.size(0), 4);
        x.call(0, 0);
        x.pass(0, 0, 0, false);
        due("no call or pass among them", x.size(0), 4);
        for (int i = 0; i < 50; i++) {
            x.copy(4, 5);
        }
        due("the most", x.size(0), 40);
    }

    private static void sizeOfCalls() {
        CHECKS.begin("promise 18: 1 the calls");
        PointerClones x = new PointerClones();
        due("none", x.size(1), 0);
        x.call(0, 0);
        due("one, not solved", x.size(1), 1);
        for (int i = 0; i < 10; i++) {
            x.call(3, 3);
        }
        due("the most", x.size(1), 8);
    }

    private static void sizeOfPasses() {
        CHECKS.begin("promise 18: 2 the passes of all calls");
        PointerClones x = Programs.withEightContexts();
        due("none", x.size(2), 0);
        for (int call = 0; call < 8; call++) {
            x.pass(call, 4, 0, false);
            due("one of each", x.size(2), call + 1);
        }
        for (int i = 0; i < 5; i++) {
            x.pass(7, 0, 4, true);
        }
        due("four of the last", x.size(2), 11);
        for (int call = 0; call < 8; call++) {
            for (int i = 0; i < 5; i++) {
                x.pass(call, 4, 0, false);
            }
        }
        due("the most", x.size(2), 32);
    }

    private static void sizeOfHolds() {
        CHECKS.begin("promise 18: 3 the rows of HOLDS");
        PointerClones x = new PointerClones();
        due("none", x.size(3), 0);
        x.make(0, 7);
        x.store(0, 1, 0);
        due("not solved", x.size(3), 0);
        x.solve();
        due("one", x.size(3), 1);
        x.store(0, 0, 0);
        due("told later", x.size(3), 1);
        x.solve();
        due("two", x.size(3), 2);
        due("the most", everything().size(3), 128);
    }

    private static void sizeIsTheOrder() {
        CHECKS.begin("promise 18: 4 the order");
        PointerClones x = new PointerClones();
        due("at first", x.size(4), 0);
        x.order(5);
        due("the last", x.size(4), 5);
        x.order(-1);
        due("not set", x.size(4), 5);
        x.order(0);
        due("the first", x.size(4), 0);
    }

    private static void sizeIsBad() {
        CHECKS.begin("promise 18: BAD for any other number");
        PointerClones x = new PointerClones();
        PointerClones solved = everything();
        for (int what : Outside.of(4)) {
            due("size " + what, x.size(what), BAD);
            due("size " + what + ", solved", solved.size(what), BAD);
        }
    }
}
