/**
 * The edges that the document names before its promises ('What it is' and 'Terms'): a test of its
 * own for each sentence, which stands in front of what was answered wrong.
 */
public final class TermsEdgesTest {
    private static final int BAD = PointerClones.BAD;
    private static final int FULL = PointerClones.FULL;
    private static final int TOO_MANY = PointerClones.TOO_MANY;

    private static final Checks CHECKS = new Checks("TermsEdgesTest");

    public static void main(String[] args) {
        anObjectHas512Calls();
        methods();
        variables();
        variablesOfMethods();
        objects();
        kinds();
        kindAtFirst();
        acceptedSets();
        acceptedAtFirst();
        fields();
        fortyStatementsInAll();
        fortyStatementsOfAForm();
        eightCalls();
        callOfTheSameMethod();
        fourPassesOfACall();
        reaches();
        groupOfMethodsThatReachEachOther();
        groupOfTheSameMethod();
        outerCalls();
        contextsBroughtByOuterCalls();
        oneContextIfThereAreNone();
        contextsAreNumbered();
        contextsInTheOrderOfCalls();
        contextByAnyOtherCall();
        contextsOfTheGroup();
        pointsOnlyInContextsOfTheMethod();
        leastRelations();
        ruleOfNew();
        ruleOfCopy();
        ruleOfStore();
        ruleOfLoad();
        ruleOfPass();
        ruleOfPassBack();
        acceptedEverywhere();
        highestBitFirst();
        howManyBits();
        sixOrders();
        nodesDependOnTheirFirstBit();
        nodesPlaceByPlace();
        refusedTellingChangesNothing();
        refusedAskingChangesNothing();
        fullChangesNothing();
        constants();
        tooManyIsMoreThanEight();
        CHECKS.end();
    }

    private static void due(String what, long got, long want) {
        CHECKS.due(what, got, want);
    }

    private static void due(String what, boolean got, boolean want) {
        CHECKS.due(what, got, want);
    }

    private static void anObjectHas512Calls() {
        CHECKS.begin("An object is used for at most 512 calls after it has been made");
        PointerClones x = Programs.withCalls(0, 1, 0, 1);
        x.make(0, 0);
        x.pass(1, 4, 0, false);
        x.store(0, 0, 0);
        for (int call = 6; call < 512; call++) {
            x.solve();
        }
        due("a solving is the 512th", x.solve(), 2);

        x = new PointerClones();
        x.make(0, 0);
        x.solve();
        for (int call = 3; call < 512; call++) {
            x.order(call % 6);
        }
        due("nodes is the 512th", x.nodes(0), 10);

        x = new PointerClones();
        for (int call = 1; call < 512; call++) {
            x.make(16, 8);
        }
        due("the first good one is the 512th", x.make(15, 7), 1);
    }

    private static void methods() {
        CHECKS.begin("METHODS are 0 .. 3");
        PointerClones x = new PointerClones();
        due("call 0 3", x.call(0, 3), 0);
        due("call 3 0", x.call(3, 0), 1);
        due("contexts 0", x.contexts(0), 1);
        due("contexts 3", x.contexts(3), 1);
        for (int method : Outside.of(3)) {
            due("call by " + method, x.call(method, 0), BAD);
            due("call of " + method, x.call(0, method), BAD);
            due("call of itself " + method, x.call(method, method), BAD);
            due("contexts " + method, x.contexts(method), BAD);
        }
    }

    private static void variables() {
        CHECKS.begin("VARIABLES are 0 .. 15");
        PointerClones x = Programs.withCalls(0, 0, 3, 3);
        due("accept 0", x.accept(0, 15), true);
        due("accept 15", x.accept(15, 15), true);
        due("make 0", x.make(0, 0), 1);
        due("make 15", x.make(15, 0), 2);
        due("pass 0", x.pass(0, 0, 0, false), 1);
        due("pass 15", x.pass(1, 15, 15, false), 1);
        due("solve", x.solve(), 2);
        due("points 0", x.points(0, 0), 1);
        due("points 15", x.points(0, 15), 1);
        due("alias 0 15", x.alias(0, 0, 0, 15), true);
        for (int v : Outside.of(15)) {
            due("accept " + v, x.accept(v, 15), false);
            due("make " + v, x.make(v, 0), BAD);
            due("copy " + v, x.copy(v, v), BAD);
            due("store " + v, x.store(v, 0, v), BAD);
            due("load " + v, x.load(v, v, 0), BAD);
            due("pass by 0 " + v, x.pass(0, v, v, false), BAD);
            due("pass by 1 " + v, x.pass(1, v, v, false), BAD);
            due("points " + v, x.points(0, v), 0);
            due("alias " + v, x.alias(0, v, 0, v), false);
        }
    }

    private static void variablesOfMethods() {
        CHECKS.begin("variable v is one of method v / 4");
        for (int v = 0; v < 16; v++) {
            PointerClones x = new PointerClones();
            int told = 0;
            for (int w = 0; w < 16; w++) {
                boolean same = w >= v - v % 4 && w <= v - v % 4 + 3;
                told += same ? 1 : 0;
                due("copy " + v + " " + w, x.copy(v, w), same ? told : BAD);
            }
        }
    }

    private static void objects() {
        CHECKS.begin("OBJECTS (places where one is made) are 0 .. 7");
        PointerClones x = new PointerClones();
        due("kind 0", x.kind(0, 0), true);
        due("kind 7", x.kind(7, 0), true);
        due("make 0", x.make(0, 0), 1);
        due("make 7", x.make(0, 7), 2);
        x.store(0, 0, 0);
        due("solve", x.solve(), 2);
        due("holds 0", x.holds(0, 0), 0x81);
        due("holds 7", x.holds(7, 0), 0x81);
        for (int h : Outside.of(7)) {
            due("kind " + h, x.kind(h, 0), false);
            due("make " + h, x.make(0, h), BAD);
            due("holds " + h, x.holds(h, 0), 0);
        }
    }

    private static void kinds() {
        CHECKS.begin("each with a KIND 0 .. 3");
        PointerClones x = new PointerClones();
        x.make(0, 5);
        for (int kind = 0; kind <= 3; kind++) {
            due("kind " + kind, x.kind(5, kind), true);
            x.accept(0, 1 << kind);
            due("solve, accepting " + kind + " alone", x.solve(), 1);
            x.accept(0, 15 - (1 << kind));
            due("solve, accepting all but " + kind, x.solve(), 0);
        }
        for (int kind : Outside.of(3)) {
            due("kind " + kind, x.kind(5, kind), false);
        }
    }

    private static void kindAtFirst() {
        CHECKS.begin("each with a KIND .., at first 0");
        PointerClones x = new PointerClones();
        x.accept(0, 1);
        x.accept(1, 14);
        for (int h = 0; h < 8; h++) {
            x.make(0, h);
            x.make(1, h);
        }
        due("solve", x.solve(), 8);
        due("kind 0 alone is accepted", x.points(0, 0), 255);
        due("any other kind is accepted", x.points(0, 1), 0);
    }

    private static void acceptedSets() {
        CHECKS.begin("A variable ACCEPTS a set of kinds (bit k for kind k)");
        PointerClones x = new PointerClones();
        for (int kind = 0; kind < 4; kind++) {
            x.kind(kind, kind);
            x.make(9, kind);
        }
        for (int set = 0; set <= 15; set++) {
            due("accept " + set, x.accept(9, set), true);
            x.solve();
            due("points, accepting " + set, x.points(0, 9), set);
        }
    }

    private static void acceptedAtFirst() {
        CHECKS.begin("A variable ACCEPTS a set of kinds .., at first all four");
        for (int v = 0; v < 16; v++) {
            PointerClones x = new PointerClones();
            for (int kind = 0; kind < 4; kind++) {
                x.kind(kind, kind);
                x.make(v, kind);
            }
            due("solve", x.solve(), 4);
            due("points " + v, x.points(0, v), 15);
        }
    }

    private static void fields() {
        CHECKS.begin("FIELDS are 0 and 1");
        PointerClones x = new PointerClones();
        x.make(0, 3);
        due("store 0", x.store(0, 0, 0), 2);
        due("store 1", x.store(0, 1, 0), 3);
        due("load 0", x.load(1, 0, 0), 4);
        due("load 1", x.load(2, 0, 1), 5);
        due("solve", x.solve(), 3);
        due("holds 0", x.holds(3, 0), 8);
        due("holds 1", x.holds(3, 1), 8);
        for (int f : Outside.of(1)) {
            due("store " + f, x.store(0, f, 0), BAD);
            due("load " + f, x.load(0, 0, f), BAD);
            due("holds " + f, x.holds(3, f), 0);
        }
    }

    private static void fortyStatementsInAll() {
        CHECKS.begin("STATEMENTS are at most 40 in all");
        PointerClones x = Programs.withStatements(36);
        due("the 37th", x.store(0, 0, 0), 37);
        due("the 38th", x.load(1, 0, 0), 38);
        due("the 39th", x.copy(2, 1), 39);
        due("the 40th", x.make(2, 7), 40);
        due("make is the 41st", x.make(3, 1), FULL);
        due("copy is the 41st", x.copy(3, 0), FULL);
        due("store is the 41st", x.store(0, 1, 0), FULL);
        due("load is the 41st", x.load(3, 0, 0), FULL);
        due("size", x.size(0), 40);
        due("solve", x.solve(), 4);
        due("the last ones count", x.points(0, 2), 0x81);
        due("those too many do not", x.points(0, 3), 0);
    }

    private static void fortyStatementsOfAForm() {
        CHECKS.begin("STATEMENTS are at most 40 in all, all of one form");
        PointerClones x = new PointerClones();
        PointerClones y = new PointerClones();
        PointerClones z = new PointerClones();
        PointerClones u = new PointerClones();
        for (int i = 1; i <= 41; i++) {
            int want = i <= 40 ? i : FULL;
            due("make", x.make(15, 7), want);
            due("copy", y.copy(15, 12), want);
            due("store", z.store(15, 1, 12), want);
            due("load", u.load(15, 12, 1), want);
        }
    }

    private static void eightCalls() {
        CHECKS.begin("CALLS are numbered 0, 1, .., at most 8");
        PointerClones x = new PointerClones();
        for (int i = 0; i < 8; i++) {
            due("call " + i, x.call(i % 2 == 0 ? 0 : 3, i % 2 == 0 ? 1 : 2), i);
        }
        due("the ninth", x.call(0, 1), FULL);
        due("the ninth, of itself", x.call(3, 3), FULL);
        due("size", x.size(1), 8);
        x.solve();
        due("contexts 1", x.contexts(1), 4);
        due("contexts 2", x.contexts(2), 4);
        due("by the last", x.context(7, 0), 3);
        due("no ninth", x.context(8, 0), BAD);
    }

    private static void callOfTheSameMethod() {
        CHECKS.begin("a calling and a called method (which may be the same)");
        PointerClones x = new PointerClones();
        for (int method = 0; method < 4; method++) {
            due("call of " + method + " by itself", x.call(method, method), method);
            due("pass by it", x.pass(method, method * 4 + 3, method * 4, false), 1);
            due("pass back by it", x.pass(method, method * 4 + 2, method * 4 + 3, true), 2);
            x.make(method * 4, method);
        }
        due("solve", x.solve(), 12);
        for (int method = 0; method < 4; method++) {
            due("contexts", x.contexts(method), 1);
            due("passed", x.points(0, method * 4 + 3), 1 << method);
            due("passed back", x.points(0, method * 4 + 2), 1 << method);
        }
    }

    private static void fourPassesOfACall() {
        CHECKS.begin("at most four PASSES");
        for (int backs = 0; backs <= 4; backs++) {
            PointerClones x = Programs.withCalls(0, 1);
            for (int i = 0; i < 4; i++) {
                due("pass", i < backs ? x.pass(0, i, 4, true) : x.pass(0, 4, i, false), i + 1);
            }
            due("the fifth", x.pass(0, 4, 0, false), FULL);
            due("the fifth, back", x.pass(0, 0, 4, true), FULL);
            due("size", x.size(2), 4);
        }

        PointerClones x = Programs.withEightContexts();
        for (int h = 0; h < 4; h++) {
            x.make(h, h);
        }
        for (int call = 7; call >= 0; call--) {
            for (int i = 0; i < 4; i++) {
                due("each call has four, call " + call, x.pass(call, 4 + i, i, false), i + 1);
            }
            due("the fifth of call " + call, x.pass(call, 4, 1, false), FULL);
        }
        due("size", x.size(2), 32);
        due("solve", x.solve(), 4 + 32);
        due("the fifth is not there", x.points(0, 4), 1);
    }

    private static void reaches() {
        CHECKS.begin("A method REACHES those that it calls, and what these reach");
        for (int a = 0; a < 4; a++) {
            for (int b = 0; b < 4; b++) {
                for (int c = 0; c < 4; c++) {
                    int d = 6 - a - b - c;
                    if (a != b && a != c && b != c) {
                        ringOfFour(a, b, c, d);
                    }
                }
            }
        }
    }

    private static void ringOfFour(int a, int b, int c, int d) {
        // Each call is there twice: a call that was taken for an outer one would bring a context more.
        PointerClones x = Programs.withCalls(a, b, b, c, c, d, d, a, a, b, b, c, c, d, d, a);
        x.solve();
        for (int method = 0; method < 4; method++) {
            due("contexts of a ring " + a + b + c + d, x.contexts(method), 1);
        }
        for (int call = 0; call < 8; call++) {
            due("call in a ring " + a + b + c + d, x.context(call, 0), 0);
        }
    }

    private static void groupOfMethodsThatReachEachOther() {
        CHECKS.begin("two methods are of one GROUP if .. each reaches the other");
        PointerClones x = Programs.withCalls(0, 1, 0, 1, 1, 2, 1, 2, 2, 3, 2, 3);
        x.solve();
        due("reached alone, once", x.contexts(1), 2);
        due("reached alone, over one", x.contexts(2), 4);
        due("reached alone, over two", x.contexts(3), 8);
        x.call(3, 2);
        x.solve();
        due("now 3 reaches 2", x.contexts(3), 4);
        due("and 2 is no wider", x.contexts(2), 4);
        x.call(2, 0);
        x.solve();
        due("now 3 reaches all", x.contexts(3), 1);
        due("and all reach 3", x.contexts(0), 1);
    }

    private static void groupOfTheSameMethod() {
        CHECKS.begin("two methods are of one GROUP if they are the same");
        PointerClones x = Programs.withCalls(2, 1, 3, 1, 1, 1);
        x.solve();
        due("calls into a method alone", x.contexts(1), 2);
        due("the second of them", x.context(1, 0), 1);
        due("the calling ones are no group", x.contexts(2), 1);
    }

    private static void outerCalls() {
        CHECKS.begin("A call is OUTER if its methods are of different groups");
        PointerClones x = Programs.withCalls(1, 1, 2, 1, 1, 2, 0, 1, 2, 2, 0, 3);
        x.solve();
        due("one outer call into 1 and 2", x.contexts(1), 1);
        due("of itself", x.context(0, 0), 0);
        due("in a ring of two", x.context(1, 0), 0);
        due("the outer one is the first", x.context(3, 0), 0);
        due("outer, into a group of one", x.contexts(3), 1);
        x.call(0, 2);
        x.solve();
        due("two outer calls into 1 and 2", x.contexts(1), 2);
        due("the second of them", x.context(6, 0), 1);
    }

    private static void contextsBroughtByOuterCalls() {
        CHECKS.begin("as many contexts as all outer calls into it bring, .. as the calling method's group has");
        PointerClones x = Programs.withCalls(3, 0, 3, 0, 3, 0, 0, 1, 0, 2, 1, 2, 2, 1, 3, 2);
        x.solve();
        due("three calls by one", x.contexts(0), 3);
        due("two calls by three and one by one", x.contexts(1), 7);
        due("the same for all of the group", x.contexts(2), 7);

        x = Programs.withCalls(0, 1, 1, 0, 2, 1, 2, 1, 0, 3, 1, 3);
        x.solve();
        due("the calling method's group, not the method alone", x.contexts(0), 2);
        due("calls by both of a group", x.contexts(3), 4);
    }

    private static void oneContextIfThereAreNone() {
        CHECKS.begin("one context if there are none");
        PointerClones x = Programs.withCalls(0, 0, 1, 2, 2, 1);
        x.make(0, 0);
        x.make(4, 1);
        x.make(12, 2);
        due("solve", x.solve(), 3);
        due("called by itself alone", x.contexts(0), 1);
        due("a ring that is not called", x.contexts(1), 1);
        due("a ring that is not called", x.contexts(2), 1);
        due("not called at all", x.contexts(3), 1);
    }

    private static void contextsAreNumbered() {
        CHECKS.begin("They are numbered 0, 1, ..");
        PointerClones x = Programs.withCalls(0, 1, 0, 1, 0, 1, 1, 2);
        x.make(4, 0);
        due("solve", x.solve(), 3);
        for (int c = -1; c <= 8; c++) {
            boolean there = c >= 0 && c < 3;
            due("points in " + c, x.points(c, 4), there ? 1 : 0);
            due("context " + c, x.context(3, c), there ? c : BAD);
        }
    }

    private static void contextsInTheOrderOfCalls() {
        CHECKS.begin("outer calls into a group bring them in the order of the calls' numbers");
        PointerClones x = Programs.withCalls(3, 2, 0, 2, 2, 2, 3, 0, 3, 2, 0, 2, 3, 0);
        x.solve();
        due("contexts", x.contexts(2), 6);
        due("the first", x.context(0, 0), 0);
        due("the second", x.context(1, 0), 1);
        due("the second, on", x.context(1, 1), 2);
        due("not outer", x.context(2, 5), 5);
        due("into another group, the first", x.context(3, 0), 0);
        due("the third", x.context(4, 0), 3);
        due("the fourth", x.context(5, 0), 4);
        due("the fourth, on", x.context(5, 1), 5);
        due("into another group, the second", x.context(6, 0), 1);

        x = Programs.withCalls(0, 2, 0, 1, 1, 2, 2, 1, 0, 2);
        x.solve();
        due("into one of a group", x.context(0, 0), 0);
        due("into the other", x.context(1, 0), 1);
        due("into the first again", x.context(4, 0), 2);
    }

    private static void contextByAnyOtherCall() {
        CHECKS.begin("by any other call it is c itself");
        PointerClones x = Programs.withCalls(0, 1, 0, 1, 0, 1, 1, 1, 0, 1, 1, 2, 2, 1, 0, 2);
        x.solve();
        due("contexts", x.contexts(1), 5);
        for (int c = 0; c < 5; c++) {
            due("of itself", x.context(3, c), c);
            due("in a ring", x.context(5, c), c);
            due("in a ring, on", x.context(6, c), c);
        }
        due("no more of them", x.context(3, 5), BAD);
        due("no more of them in a ring", x.context(6, 5), BAD);
        due("outer after it", x.context(4, 0), 3);
        due("outer, the last", x.context(7, 0), 4);
    }

    private static void contextsOfTheGroup() {
        CHECKS.begin("A method has the contexts of its group");
        PointerClones x = Programs.withCalls(0, 1, 0, 1, 1, 2, 2, 3, 3, 1);
        x.make(12, 6);
        due("solve", x.solve(), 2);
        for (int method = 1; method < 4; method++) {
            due("contexts " + method, x.contexts(method), 2);
        }
        due("points", x.points(0, 12), 64);
        due("points", x.points(1, 12), 64);
    }

    private static void pointsOnlyInContextsOfTheMethod() {
        CHECKS.begin("POINTS holds of some contexts c .., where c is one of v's method");
        PointerClones x = Programs.withEightContexts();
        for (int method = 0; method < 4; method++) {
            x.make(method * 4, 0);
            x.make(method * 4 + 3, 7);
        }
        due("solve", x.solve(), 2 * (1 + 8 + 1 + 1));
        for (int c = 0; c < 8; c++) {
            due("called, first", x.points(c, 4), 1);
            due("called, last", x.points(c, 7), 128);
            due("calling, first", x.points(c, 0), c == 0 ? 1 : 0);
            due("calling, last", x.points(c, 3), c == 0 ? 128 : 0);
            due("another", x.points(c, 8), c == 0 ? 1 : 0);
            due("the last", x.points(c, 15), c == 0 ? 128 : 0);
        }
    }

    private static void leastRelations() {
        CHECKS.begin("They are the least ones");
        PointerClones x = Programs.withCalls(0, 1, 1, 0);
        x.copy(0, 1);
        x.copy(1, 2);
        x.copy(2, 0);
        x.copy(3, 3);
        x.store(0, 0, 1);
        x.load(1, 0, 0);
        x.load(3, 3, 1);
        x.pass(0, 4, 0, false);
        x.pass(1, 1, 4, false);
        x.pass(0, 2, 4, true);
        due("a ring that nothing goes into", x.solve(), 0);
        due("nothing held", x.size(3), 0);
        x.make(0, 0);
        due("a ring that something goes into", x.solve(), 4);
        due("it goes no further", x.points(0, 3), 0);
        due("one row held", x.size(3), 1);
        x.accept(0, 0);
        due("what it grew from is gone", x.solve(), 0);
        due("what was held is gone", x.size(3), 0);
    }

    /** Method 1 has eight contexts; 4 has object 0 in context 0 alone, 5 has object 1 in context 7 alone. */
    private static PointerClones twoEnds() {
        PointerClones x = Programs.withEightContexts();
        x.make(0, 0);
        x.make(1, 1);
        x.pass(0, 4, 0, false);
        x.pass(7, 5, 1, false);
        return x;
    }

    private static void ruleOfNew() {
        CHECKS.begin("for all contexts: NEW(v, h): POINTS(c, v, h)");
        PointerClones x = Programs.withEightContexts();
        x.make(7, 7);
        due("solve", x.solve(), 8);
        for (int c = 0; c < 8; c++) {
            due("points in " + c, x.points(c, 7), 128);
        }
    }

    private static void ruleOfCopy() {
        CHECKS.begin("for all contexts: COPY(v, w): POINTS(c, v, h) if POINTS(c, w, h)");
        PointerClones x = twoEnds();
        x.copy(6, 4);
        x.copy(7, 5);
        due("solve", x.solve(), 2 + 2 + 2);
        due("the first context", x.points(0, 6), 1);
        due("the last context", x.points(7, 7), 2);
        due("no other context", x.points(7, 6), 0);
        due("no other context", x.points(0, 7), 0);
        due("never the other way", x.points(0, 5), 0);
    }

    private static void ruleOfStore() {
        CHECKS.begin("for all contexts: STORE(v, f, w): HOLDS(h, f, g) if POINTS(c, v, h) and POINTS(c, w, g)");
        PointerClones x = twoEnds();
        x.store(4, 0, 5);
        x.store(5, 1, 4);
        x.solve();
        due("both, but in different contexts", x.size(3), 0);
        x.pass(7, 4, 1, false);
        x.solve();
        due("both in the last context", x.size(3), 2);
        due("field 0", x.holds(1, 0), 2);
        due("field 1", x.holds(1, 1), 2);
        x.pass(0, 5, 1, false);
        x.solve();
        due("both in the first context", x.holds(0, 0), 2);
        due("the other way", x.holds(1, 1), 3);
        due("not the other field", x.holds(0, 1), 0);
    }

    private static void ruleOfLoad() {
        CHECKS.begin("for all contexts: LOAD(v, w, f): POINTS(c, v, g) if POINTS(c, w, h) and HOLDS(h, f, g)");
        PointerClones x = twoEnds();
        x.store(0, 1, 1);
        x.load(6, 4, 1);
        x.load(6, 4, 0);
        x.load(7, 5, 1);
        due("solve", x.solve(), 2 + 2 + 1);
        due("held, in the first context", x.points(0, 6), 2);
        due("no other context", x.points(7, 6), 0);
        due("its holder holds nothing", x.points(7, 7), 0);
        x.store(1, 1, 0);
        due("solve", x.solve(), 2 + 2 + 1 + 1);
        due("held, in the last context", x.points(7, 7), 1);

        x = new PointerClones();
        x.make(0, 0);
        x.make(1, 3);
        x.make(3, 0);
        x.make(3, 3);
        x.make(3, 7);
        x.store(0, 0, 0);
        x.store(1, 0, 1);
        x.load(2, 3, 0);
        x.solve();
        due("held by some of several, the last holding nothing", x.points(0, 2), 1 + 8);
    }

    private static void ruleOfPass() {
        CHECKS.begin("A pass from w to v by a call: POINTS(d, v, h) if POINTS(c, w, h)");
        PointerClones x = Programs.withCalls(0, 1, 0, 1, 1, 2, 1, 2, 2, 3, 2, 3);
        x.make(0, 0);
        x.make(1, 1);
        x.pass(0, 4, 0, false);
        x.pass(1, 4, 1, false);
        x.pass(3, 8, 4, false);
        x.pass(5, 12, 8, false);
        due("solve", x.solve(), 2 + 2 + 2 + 2);
        for (int c = 0; c < 8; c++) {
            due("method 2 in " + c, x.points(c, 8), c == 2 ? 1 : c == 3 ? 2 : 0);
            due("method 3 in " + c, x.points(c, 12), c == 6 ? 1 : c == 7 ? 2 : 0);
        }
    }

    private static void ruleOfPassBack() {
        CHECKS.begin("a pass back from w to v: POINTS(c, v, h) if POINTS(d, w, h)");
        PointerClones x = twoEnds();
        x.pass(0, 2, 4, true);
        x.pass(7, 2, 5, true);
        x.pass(7, 3, 4, true);
        due("solve", x.solve(), 2 + 2 + 2);
        due("back from the first and the last", x.points(0, 2), 3);
        due("not from another context", x.points(0, 3), 0);

        x = Programs.withCalls(0, 1, 0, 1, 1, 2, 1, 2);
        x.make(8, 5);
        x.make(0, 1);
        x.make(1, 2);
        x.pass(0, 4, 0, false);
        x.pass(1, 4, 1, false);
        x.pass(3, 8, 4, false);
        x.pass(2, 5, 8, true);
        x.pass(3, 6, 8, true);
        x.solve();
        due("by the first, context 0", x.points(0, 5), 32);
        due("by the first, context 1", x.points(1, 5), 32);
        due("by the second, context 0", x.points(0, 6), 32 + 2);
        due("by the second, context 1", x.points(1, 6), 32 + 4);
    }

    private static void acceptedEverywhere() {
        CHECKS.begin("Everywhere POINTS(c, v, h) only if v accepts the kind of h");
        for (int rule = 0; rule < 5; rule++) {
            PointerClones x = Programs.withCalls(0, 1);
            x.kind(7, 3);
            x.make(0, 0);
            x.make(0, 7);
            x.store(0, 1, 0);
            x.pass(0, 4, 0, false);
            int v = new int[] {0, 1, 2, 5, 3}[rule];
            x.accept(v, 8);
            x.copy(1, 0);
            x.load(2, 0, 1);
            x.pass(0, 5, 0, false);
            x.pass(0, 3, 4, true);
            int more = rule == 0 ? 6 : 11;
            due("rows, rule " + rule, x.solve(), more);
            due("points, rule " + rule, x.points(0, v), 128);
            due("held, rule " + rule, x.holds(7, 1), rule == 0 ? 128 : 129);
        }
        PointerClones x = new PointerClones();
        x.kind(7, 3);
        x.accept(0, 8);
        x.make(0, 7);
        x.accept(1, 1);
        x.make(1, 0);
        x.store(0, 0, 1);
        x.store(1, 0, 0);
        due("each accepts one kind", x.solve(), 2);
        due("HOLDS needs no leave of the variable on the left", x.holds(7, 0), 1);
        due("HOLDS needs no leave of the variable on the right", x.holds(0, 0), 128);
    }

    // Objects 1, 3, 6 and 7: the highest bit chooses which of the other two is asked.
    private static final int[] CHOSEN = {1, 3, 6, 7};

    private static void highestBitFirst() {
        CHECKS.begin("The numbers of a row are written with their bits, the highest first");
        PointerClones x = new PointerClones();
        for (int h : CHOSEN) {
            x.make(0, h);
        }
        x.store(0, 0, 0);
        x.solve();
        due("the object of POINTS", x.nodes(0), 3 + 4 + 3);
        due("both objects of HOLDS", x.nodes(1), 3 + 1 + 3);

        x = new PointerClones();
        for (int v : new int[] {2, 3, 6, 7, 12, 13, 14, 15}) {
            x.make(v, 0);
        }
        x.solve();
        due("the variable of POINTS", x.nodes(0), 3 + 3 + 3);

        x = Programs.withEightContexts();
        x.make(0, 0);
        for (int call : CHOSEN) {
            x.pass(call, 4, 0, false);
        }
        x.solve();
        x.order(3);
        // Variables 0 and 4 part at the second bit; then three bits of the object, then the contexts.
        due("the context of POINTS", x.nodes(0), (1 + 1 + 2 + 2) + 2 * 3 + (3 + 3));
    }

    private static void howManyBits() {
        CHECKS.begin("of POINTS the context with 3, the variable with 4, the object with 3 bits, of HOLDS 3, 1, 3");
        PointerClones x = new PointerClones();
        x.make(15, 7);
        x.store(15, 1, 15);
        x.solve();
        for (int order = 0; order < 6; order++) {
            x.order(order);
            due("one row of POINTS in order " + order, x.nodes(0), 10);
            due("one row of HOLDS in order " + order, x.nodes(1), 7);
        }
    }

    private static void sixOrders() {
        CHECKS.begin("0 as said, 1 first, third, second; 2 second, first, third; 3 second, third, first; "
            + "4 third, first, second; 5 third, second, first");
        // Two rows that differ first at place s and last at place t have t - s nodes more than bits.
        PointerClones x = Programs.withCalls(0, 1, 0, 1, 0, 1);
        x.make(0, 0);
        x.pass(2, 5, 0, false);
        x.solve();
        inAllOrders("rows (0, 0, 0) and (2, 5, 0)", x, 0, 10, new int[] {5, 8, 4, 7, 5, 4});
        x = new PointerClones();
        x.make(0, 0);
        x.make(1, 1);
        x.solve();
        inAllOrders("rows (0, 0, 0) and (0, 1, 1)", x, 0, 10, new int[] {3, 4, 6, 3, 7, 4});
        x.make(2, 2);
        x.store(0, 0, 0);
        x.store(1, 0, 2);
        x.solve();
        inAllOrders("rows (0, 0, 0) and (1, 0, 2) of HOLDS", x, 1, 7, new int[] {3, 2, 2, 4, 4, 5});
        x = new PointerClones();
        x.make(0, 0);
        x.make(1, 1);
        x.store(0, 0, 0);
        x.store(0, 1, 1);
        x.solve();
        inAllOrders("rows (0, 0, 0) and (0, 1, 1) of HOLDS", x, 1, 7, new int[] {3, 1, 6, 3, 4, 1});
    }

    private static void inAllOrders(String rows, PointerClones x, int which, int bits, int[] more) {
        for (int order = 0; order < 6; order++) {
            x.order(order);
            due("nodes of " + rows + " in order " + order, x.nodes(which), bits + more[order]);
        }
    }

    private static void nodesDependOnTheirFirstBit() {
        CHECKS.begin("functions .. that depend on their first bit");
        PointerClones x = new PointerClones();
        for (int h = 0; h < 8; h++) {
            x.make(0, h);
        }
        x.store(0, 0, 0);
        x.solve();
        for (int order = 0; order < 6; order++) {
            x.order(order);
            due("every object in order " + order, x.nodes(0), 3 + 4);
            due("every row of a field in order " + order, x.nodes(1), 1);
        }
        x.store(0, 1, 0);
        x.solve();
        for (int order = 0; order < 6; order++) {
            x.order(order);
            due("every row there can be in order " + order, x.nodes(1), 0);
        }
        x.accept(0, 0);
        x.solve();
        for (int order = 0; order < 6; order++) {
            x.order(order);
            due("no row of POINTS in order " + order, x.nodes(0), 0);
            due("no row of HOLDS in order " + order, x.nodes(1), 0);
        }
    }

    private static void nodesPlaceByPlace() {
        CHECKS.begin("as many nodes as there are such functions at all places, taken place by place");
        PointerClones x = new PointerClones();
        // The last bit alone and the last but one alone look alike, but stand at different places.
        for (int h : CHOSEN) {
            x.make(0, h);
        }
        // The same functions of the object count once, however many variables have them.
        for (int v = 1; v < 4; v++) {
            x.copy(v, 0);
        }
        x.solve();
        due("four variables with the same objects", x.nodes(0), 3 + 2 + 3);
        x.make(3, 0);
        x.solve();
        // Objects 0, 1, 3, 6 and 7: two new functions of the object, at its first place and its second.
        due("one of them with one more", x.nodes(0), 3 + 4 + (2 + 2 + 1));
    }

    private interface Telling {
        long tell(PointerClones x);
    }

    private static void refusedTellingChangesNothing() {
        CHECKS.begin("A call that answers false .. changes nothing, when it tells something");
        unchanged("kind of 8", 0, x -> x.kind(8, 1) ? 1 : 0);
        unchanged("kind of -1", 0, x -> x.kind(-1, 1) ? 1 : 0);
        unchanged("kind 4 of 0", 0, x -> x.kind(0, 4) ? 1 : 0);
        unchanged("kind -1 of 0", 0, x -> x.kind(0, -1) ? 1 : 0);
        unchanged("accept by 16", 0, x -> x.accept(16, 0) ? 1 : 0);
        unchanged("accept by -1", 0, x -> x.accept(-1, 0) ? 1 : 0);
        unchanged("accept 16", 0, x -> x.accept(0, 16) ? 1 : 0);
        unchanged("accept -1", 0, x -> x.accept(0, -1) ? 1 : 0);
        unchanged("make 16", BAD, x -> x.make(16, 0));
        unchanged("make of 8", BAD, x -> x.make(0, 8));
        unchanged("copy from 4", BAD, x -> x.copy(0, 4));
        unchanged("copy to 4", BAD, x -> x.copy(4, 0));
        unchanged("copy from 16", BAD, x -> x.copy(15, 16));
        unchanged("store from 4", BAD, x -> x.store(0, 0, 4));
        unchanged("store to field 2", BAD, x -> x.store(0, 2, 1));
        unchanged("load from 4", BAD, x -> x.load(0, 4, 0));
        unchanged("load from field 2", BAD, x -> x.load(0, 1, 2));
        unchanged("call by 4", BAD, x -> x.call(4, 0));
        unchanged("call of 4", BAD, x -> x.call(0, 4));
        unchanged("pass by 5", BAD, x -> x.pass(5, 4, 0, false));
        unchanged("pass by -1", BAD, x -> x.pass(-1, 4, 0, false));
        unchanged("pass the wrong way", BAD, x -> x.pass(0, 0, 4, false));
        unchanged("pass back the wrong way", BAD, x -> x.pass(0, 4, 0, true));
        unchanged("pass to 16", BAD, x -> x.pass(0, 16, 0, false));
    }

    private static void refusedAskingChangesNothing() {
        CHECKS.begin("A call that answers false or one of the constants changes nothing, when it asks or sets");
        unchanged("order 6", 0, x -> x.order(6) ? 1 : 0);
        unchanged("order -1", 0, x -> x.order(-1) ? 1 : 0);
        unchanged("nodes 2", BAD, x -> x.nodes(2));
        unchanged("nodes -1", BAD, x -> x.nodes(-1));
        unchanged("size 5", BAD, x -> x.size(5));
        unchanged("size -1", BAD, x -> x.size(-1));
        unchanged("contexts 4", BAD, x -> x.contexts(4));
        unchanged("context by 5", BAD, x -> x.context(5, 0));
        unchanged("context by a call told later", BAD, x -> x.context(4, 0));
        unchanged("context 1 of method 0", BAD, x -> x.context(0, 1));
        unchanged("points of 16", 0, x -> x.points(0, 16));
        unchanged("holds of 8", 0, x -> x.holds(8, 0));
        unchanged("alias of 16", 0, x -> x.alias(0, 0, 0, 16) ? 1 : 0);
        unchanged("alias of two that are apart", 0, x -> x.alias(0, 0, 0, 15) ? 1 : 0);
    }

    private static void unchanged(String what, int want, Telling refused) {
        unchanged(what, want, refused, Programs.withSomeOfAll(), Programs.withSomeOfAll());
    }

    /** What was told shows in full only after the next solving. */
    private static void unchanged(String what, int want, Telling refused, PointerClones x, PointerClones twin) {
        due(what, refused.tell(x), want);
        CHECKS.due("then all", Seen.all(x), Seen.all(twin));
        due("then solve", x.solve(), twin.solve());
        CHECKS.due("then all, solved", Seen.all(x), Seen.all(twin));
    }

    private static void fullChangesNothing() {
        CHECKS.begin("A call that answers .. one of the constants changes nothing, when that is FULL");
        unchangedWhenFull("make", x -> x.make(3, 0));
        unchangedWhenFull("copy", x -> x.copy(3, 0));
        unchangedWhenFull("store", x -> x.store(0, 0, 1));
        unchangedWhenFull("load", x -> x.load(3, 0, 0));
        unchangedWhenFull("call", x -> x.call(0, 2));
        unchangedWhenFull("call of itself", x -> x.call(1, 1));
        unchangedWhenFull("pass by 0", x -> x.pass(0, 4, 1, false));
        unchangedWhenFull("pass by 7", x -> x.pass(7, 4, 1, false));
        unchangedWhenFull("pass back by 7", x -> x.pass(7, 3, 4, true));
    }

    private static void unchangedWhenFull(String what, Telling refused) {
        unchanged(what, FULL, refused, Programs.full(), Programs.full());
    }

    private static void constants() {
        CHECKS.begin("BAD = -1, FULL = -2, TOO_MANY = -3");
        due("BAD", BAD, -1);
        due("FULL", FULL, -2);
        due("TOO_MANY", TOO_MANY, -3);
        due("a number out of its range", new PointerClones().make(16, 0), -1);
        due("no such thing", new PointerClones().pass(0, 0, 0, false), -1);
        due("no room", Programs.withStatements(40).make(0, 0), -2);
        due("too many contexts", Programs.withCalls(0, 1, 0, 1, 0, 1, 1, 2, 1, 2, 1, 2).solve(), -3);
    }

    private static void tooManyIsMoreThanEight() {
        CHECKS.begin("TOO_MANY = -3: A group would have more than eight contexts");
        PointerClones x = Programs.withEightContexts();
        due("eight of a method", x.solve(), 0);
        due("contexts", x.contexts(1), 8);
        for (int method = 0; method < 4; method++) {
            nineOrEightOf(method, (method + 1) % 4, (method + 2) % 4, (method + 3) % 4);
        }
        // The greatest number that eight calls can bring: 3 times 3 times 2.
        x = Programs.withCalls(0, 1, 0, 1, 0, 1, 1, 2, 1, 2, 1, 2, 2, 3, 2, 3);
        due("eighteen", x.solve(), TOO_MANY);
    }

    private static void nineOrEightOf(int method, int second, int third, int fourth) {
        String of = " of method " + method;
        PointerClones x = Programs.withCalls(third, second, third, second, third, second,
            second, method, second, method, fourth, method, third, method);
        due("3 + 3 + 1 + 1" + of, x.solve(), 0);
        due("contexts" + of, x.contexts(method), 8);
        x.call(fourth, method);
        due("3 + 3 + 1 + 1 + 1" + of, x.solve(), TOO_MANY);
        due("contexts stay" + of, x.contexts(method), 8);

        x = Programs.withCalls(third, second, third, second, third, second, third, second,
            second, method, method, fourth, fourth, method, second, fourth);
        due("4 + 4 of a ring" + of, x.solve(), 0);
        due("contexts of a ring" + of, x.contexts(method), 8);

        x = Programs.withCalls(third, second, third, second, third, second,
            second, method, method, fourth, fourth, method, second, fourth, second, fourth);
        due("3 + 3 + 3 of a ring" + of, x.solve(), TOO_MANY);
        due("contexts of a ring stay" + of, x.contexts(method), 1);
    }
}
