import java.util.ArrayList;
import java.util.List;
import java.util.Random;

/** Long runs of calls, the same every time, on the program and on the model side by side. */
public final class ModelTest {
    private static final int RUNS = 600;
    private static final int CALLS_OF_A_RUN = 512;
    private static final int[] FAR = {Integer.MIN_VALUE, -5, -1, 4, 8, 16, 17, 64, Integer.MAX_VALUE};

    private static final Checks CHECKS = new Checks("ModelTest");

    private final Random random;
    private final PointerClones x = new PointerClones();
    private final Model model = new Model();
    // Some runs call methods upwards only, so that contexts multiply.
    private final boolean upwards;
    private final List<int[]> callsMade = new ArrayList<>();
    private final int wrongInThousand;
    private int calls = 0;
    private static int tooMany = 0;
    private static int mostNodes = 0;
    private static int mostRows = 0;

    private ModelTest(int seed) {
        random = new Random(seed);
        upwards = random.nextBoolean();
        wrongInThousand = random.nextInt(3) * 20;
        CHECKS.begin("run " + seed);
    }

    public static void main(String[] args) {
        for (int seed = 1; seed <= RUNS; seed++) {
            new ModelTest(seed).run();
        }
        CHECKS.begin("what the runs came to");
        CHECKS.due("too many contexts at times", tooMany > 10, true);
        CHECKS.due("large relations at times", mostRows > 300, true);
        CHECKS.due("large diagrams at times", mostNodes > 60, true);
        System.out.println("solvings with too many contexts " + tooMany + ", most rows " + mostRows
            + ", most nodes " + mostNodes);
        CHECKS.end();
    }

    private void run() {
        int buildCalls = 20 + random.nextInt(120);
        while (calls < buildCalls) {
            build();
        }
        solve();
        while (calls < CALLS_OF_A_RUN) {
            if (random.nextInt(12) == 0) {
                build();
            } else {
                ask();
            }
        }
    }

    private int number(int bound) {
        if (random.nextInt(1000) < wrongInThousand) {
            return FAR[random.nextInt(FAR.length)];
        }
        return random.nextInt(bound);
    }

    private int fellow(int v) {
        if (v < 0 || v > 15 || random.nextInt(20) == 0) {
            return number(16);
        }
        return v / 4 * 4 + number(4);
    }

    private void due(String what, long got, long want) {
        calls++;
        CHECKS.due("call " + calls + " " + what, got, want);
    }

    private void due(String what, boolean got, boolean want) {
        due(what, got ? 1 : 0, want ? 1 : 0);
    }

    private void build() {
        int v = number(16);
        int w = fellow(v);
        int h = number(8);
        int f = number(2);
        switch (random.nextInt(12)) {
            case 0:
                int kind = number(4);
                due("kind " + h + " " + kind, x.kind(h, kind), model.kind(h, kind));
                break;
            case 1:
                int set = random.nextBoolean() ? 15 : number(16);
                due("accept " + v + " " + set, x.accept(v, set), model.accept(v, set));
                break;
            case 2:
                due("make " + v + " " + h, x.make(v, h), model.make(v, h));
                break;
            case 3:
                due("copy " + v + " " + w, x.copy(v, w), model.copy(v, w));
                break;
            case 4:
                due("store " + v + " " + f + " " + w, x.store(v, f, w), model.store(v, f, w));
                break;
            case 5:
                due("load " + v + " " + w + " " + f, x.load(v, w, f), model.load(v, w, f));
                break;
            case 6:
            case 7:
                buildCall();
                break;
            case 8:
                if (random.nextInt(4) == 0) {
                    solve();
                }
                break;
            default:
                buildPass();
                break;
        }
    }

    private void buildCall() {
        int calling = number(4);
        int called = number(4);
        if (upwards && calling > called) {
            int kept = calling;
            calling = called;
            called = kept;
        }
        int want = model.call(calling, called);
        due("call " + calling + " " + called, x.call(calling, called), want);
        if (want >= 0) {
            callsMade.add(new int[] {calling, called});
        }
    }

    private void buildPass() {
        int call = number(8);
        boolean back = random.nextInt(3) == 0;
        int v = number(16);
        int w = number(16);
        // Two variables at random are hardly ever of the right methods.
        if (call >= 0 && call < callsMade.size() && random.nextInt(20) != 0) {
            int[] methods = callsMade.get(call);
            v = methods[back ? 0 : 1] * 4 + number(4);
            w = methods[back ? 1 : 0] * 4 + number(4);
        }
        int want = model.pass(call, v, w, back);
        due("pass " + call + " " + v + " " + w + " " + back, x.pass(call, v, w, back), want);
    }

    private void solve() {
        int want = model.solve();
        due("solve", x.solve(), want);
        if (want == PointerClones.TOO_MANY) {
            tooMany++;
        }
        mostRows = Math.max(mostRows, want);
    }

    private void ask() {
        int c = random.nextInt(3) == 0 ? 0 : number(9);
        int d = random.nextInt(3) == 0 ? 0 : number(9);
        int v = number(16);
        int w = number(16);
        switch (random.nextInt(9)) {
            case 0:
                due("points " + c + " " + v, x.points(c, v), model.points(c, v));
                break;
            case 1:
                int h = number(8);
                int f = number(2);
                due("holds " + h + " " + f, x.holds(h, f), model.holds(h, f));
                break;
            case 2:
                int method = number(4);
                due("contexts " + method, x.contexts(method), model.contexts(method));
                break;
            case 3:
                int call = number(8);
                due("context " + call + " " + c, x.context(call, c), model.context(call, c));
                break;
            case 4:
                due("alias " + c + " " + v + " " + d + " " + w, x.alias(c, v, d, w), model.alias(c, v, d, w));
                break;
            case 5:
                int order = number(6);
                due("order " + order, x.order(order), model.order(order));
                break;
            case 6:
                int which = number(2);
                int nodes = model.nodes(which);
                due("nodes " + which, x.nodes(which), nodes);
                mostNodes = Math.max(mostNodes, nodes);
                break;
            case 7:
                int what = number(5);
                due("size " + what, x.size(what), model.size(what));
                break;
            default:
                if (random.nextInt(6) == 0) {
                    solve();
                }
                break;
        }
    }
}
