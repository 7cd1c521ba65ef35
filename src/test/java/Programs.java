/** New objects that have been told something already. */
final class Programs {
    private Programs() {
    }

    /** With calls, written as the calling and the called method in turn. */
    static PointerClones withCalls(int... methods) {
        PointerClones x = new PointerClones();
        for (int i = 0; i + 1 < methods.length; i += 2) {
            x.call(methods[i], methods[i + 1]);
        }
        return x;
    }

    /** With as many statements, each of them NEW of object 0 for variable 0. */
    static PointerClones withStatements(int count) {
        PointerClones x = new PointerClones();
        for (int i = 0; i < count; i++) {
            x.make(0, 0);
        }
        return x;
    }

    /** With eight calls of method 1 by method 0, so that method 1 has eight contexts. */
    static PointerClones withEightContexts() {
        return withCalls(0, 1, 0, 1, 0, 1, 0, 1, 0, 1, 0, 1, 0, 1, 0, 1);
    }

    /** With some of everything, solved, and something told after that. */
    static PointerClones withSomeOfAll() {
        PointerClones x = withCalls(0, 1, 0, 1, 1, 2, 2, 2);
        x.kind(1, 1);
        x.kind(2, 2);
        x.accept(5, 3);
        x.make(0, 0);
        x.make(0, 1);
        x.make(1, 2);
        x.copy(2, 0);
        x.store(0, 1, 1);
        x.load(3, 2, 1);
        x.pass(0, 4, 0, false);
        x.pass(1, 5, 1, false);
        x.pass(1, 5, 0, false);
        x.pass(2, 8, 5, false);
        x.pass(1, 3, 5, true);
        x.order(4);
        x.solve();
        x.make(12, 7);
        x.call(0, 3);
        x.pass(4, 12, 1, false);
        return x;
    }

    /** Solved, with no room for one more statement, call or pass. */
    static PointerClones full() {
        PointerClones x = withEightContexts();
        for (int call = 0; call < 8; call++) {
            for (int i = 0; i < 4; i++) {
                x.pass(call, 4 + i, i, false);
            }
        }
        for (int i = 0; i < 40; i++) {
            x.make(i % 3, i % 8);
        }
        x.solve();
        return x;
    }
}
