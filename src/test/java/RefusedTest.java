import java.util.ArrayList;
import java.util.Arrays;
import java.util.List;
import java.util.function.Supplier;

/**
 * All promises: a call that is refused changes nothing. Each refused call is made on one of two like
 * objects; then both are asked for everything, and both go on alike for many hours.
 */
public final class RefusedTest {
    private static final int NONE = BargeBourse.NONE;
    private static final int MAX = Integer.MAX_VALUE;
    private static final int MIN = Integer.MIN_VALUE;
    private static final int MOST_CALLS = 512;
    private static final int FULL_CALLS = 108;
    private static final Check CHECK = new Check("RefusedTest");

    private interface Call {
        long of(BargeBourse x, int... n);
    }

    /** A call with numbers that are taken; each of them is refused when it is out of its bounds. */
    private record Kind(String name, long refused, Call call, int[] good, int[] least, int[] most) { }

    public static void main(String[] args) {
        List<Kind> kinds = kinds();
        CHECK.due("all calls but feed and leave", kinds.size(), 18);
        for (Kind kind : kinds) {
            outOfBounds(kind);
        }
        statesThatRefuse();
        emptyRefuses();
        fullRefuses();
        aFaultChangesTheTapeAlone();
        askingChangesNothing();
        CHECK.end();
    }

    private static int[] row(int... numbers) {
        return numbers;
    }

    private static long as(boolean answer) {
        return answer ? 1 : 0;
    }

    /** The bounds are those of the busy bourse. */
    private static List<Kind> kinds() {
        int s = Busy.SKIPPERS - 1;
        int c = Busy.CARGOES - 1;
        return List.of(
                new Kind("law", NONE, (x, n) -> x.law(n[0]), row(5), row(0), row(Busy.TAPE)),
                new Kind("clause", NONE, (x, n) -> x.clause(n[0]), row(1), row(0), row(4)),
                new Kind("town", 0, (x, n) -> as(x.town(n[0], n[1])), row(1, 2), row(0, 1), row(7, 4)),
                new Kind("canal", NONE, (x, n) -> x.canal(n[0], n[1], n[2], n[3], n[4]),
                        row(0, 1, 1, 400, 0), row(0, 0, 1, 0, 0), row(7, 7, 48, 500, 12)),
                new Kind("depth", 0, (x, n) -> as(x.depth(n[0], n[1])), row(2, 400), row(0, 0), row(3, 500)),
                new Kind("skipper", NONE, (x, n) -> x.skipper(n[0], n[1], n[2], n[3]),
                        row(100, 50, 10, 7), row(1, 1, 1, 1), row(600, 300, 20, 7)),
                new Kind("wants", 0, (x, n) -> as(x.wants(n[0], n[1], n[2])),
                        row(1, 0, 255), row(0, 0, 0), row(s, 1000, 255)),
                new Kind("sign", NONE, (x, n) -> x.sign(n[0], n[1]), row(0, 3), row(0, 0), row(s, 7)),
                new Kind("cargo", NONE, (x, n) -> x.cargo(n[0], n[1], n[2], n[3], n[4]),
                        row(3, 4, 100, 1, 5000), row(0, 0, 1, 0, 0), row(7, 7, 600, 2, 100000)),
                new Kind("step", NONE, (x, n) -> x.step(n[0]), row(1), row(1), row(200)),
                new Kind("look", NONE, (x, n) -> x.look(n[0], n[1]), row(1, 1), row(0, 0), row(s, 9)),
                new Kind("told", NONE, (x, n) -> x.told(n[0], n[1]), row(1, 1), row(0, 0), row(c, 4)),
                new Kind("can", NONE, (x, n) -> x.can(n[0], n[1]), row(1, 1), row(0, 0), row(s, c)),
                new Kind("way", NONE, (x, n) -> x.way(n[0], n[1], n[2]), row(1, 1, 0), row(0, 0, 0), row(s, c, 0)),
                new Kind("list", NONE, (x, n) -> x.list(n[0], n[1]), row(3, 0), row(0, 0), row(7, 0)),
                new Kind("called", NONE, (x, n) -> x.called(n[0], n[1]), row(3, 1), row(0, 0), row(7, 4)),
                new Kind("best", NONE, (x, n) -> x.best(n[0]), row(3), row(0), row(7)),
                new Kind("count", NONE, (x, n) -> x.count(n[0]), row(3), row(0), row(8)));
    }

    private static void outOfBounds(Kind kind) {
        int length = kind.good.length;
        for (int i = 0; i < length; i++) {
            for (int wrong : new int[] {kind.least[i] - 1, kind.most[i] + 1, MIN, MAX}) {
                int[] numbers = kind.good.clone();
                numbers[i] = wrong;
                dueRefused(kind, numbers);
            }
        }
        for (int wrong : new int[] {MIN, MAX, -1}) {
            int[] numbers = kind.good.clone();
            Arrays.fill(numbers, wrong);
            dueRefused(kind, numbers);
        }
    }

    private static void dueRefused(Kind kind, int... numbers) {
        String name = kind.name + Arrays.toString(numbers);
        dueNoChange(name, Busy::make, x -> kind.call.of(x, numbers), kind.refused, Busy.CALLS, RefusedTest::busyCalls);
    }

    private interface Asked {
        long of(BargeBourse x);
    }

    private static void dueNoChange(String name, Supplier<BargeBourse> scene, Asked refused, long answer,
            int callsOfScene, Supplier<List<Asked>> then) {
        BargeBourse x = scene.get();
        BargeBourse y = scene.get();
        CHECK.due(name, refused.of(x), answer);
        List<Asked> calls = then.get();
        for (int i = 0; i < calls.size(); i++) {
            CHECK.due(name + ", and then call " + i, calls.get(i).of(x), calls.get(i).of(y));
        }
        CHECK.due(name + ": calls in all", callsOfScene + 1 + calls.size() <= MOST_CALLS, true);
    }

    private static void addLooks(List<Asked> calls, int skippers) {
        for (int s = 0; s < skippers; s++) {
            for (int what = 0; what < 10; what++) {
                int skipper = s;
                int asked = what;
                calls.add(x -> x.look(skipper, asked));
            }
        }
    }

    private static void addTolds(List<Asked> calls, int cargoes) {
        for (int c = 0; c < cargoes; c++) {
            for (int what = 0; what < 5; what++) {
                int cargo = c;
                int asked = what;
                calls.add(x -> x.told(cargo, asked));
            }
        }
    }

    private static void addCounts(List<Asked> calls) {
        for (int what = 0; what < 9; what++) {
            int asked = what;
            calls.add(x -> x.count(asked));
        }
        for (int what = 0; what < 5; what++) {
            int asked = what;
            calls.add(x -> x.clause(asked));
        }
    }

    private static void addHalls(List<Asked> calls, int... towns) {
        for (int t : towns) {
            for (int i = 0; i < 5; i++) {
                int asked = i;
                calls.add(x -> x.called(t, asked));
            }
            calls.add(x -> x.best(t));
            calls.add(x -> x.list(t, 0));
            calls.add(x -> x.list(t, 1));
        }
    }

    private static List<Asked> busyCalls() {
        List<Asked> calls = new ArrayList<>();
        addCounts(calls);
        addLooks(calls, Busy.SKIPPERS + 1);
        addTolds(calls, Busy.CARGOES + 1);
        addHalls(calls, 0, 1, 3);
        for (int c = 0; c < Busy.CARGOES; c++) {
            int cargo = c;
            calls.add(x -> x.can(1, cargo));
            calls.add(x -> x.way(1, cargo, 0));
        }
        calls.add(x -> x.step(1));
        addLooks(calls, Busy.SKIPPERS);
        calls.add(x -> x.law(17));
        calls.add(x -> x.sign(0, 3));
        calls.add(x -> x.canal(0, 3, 1, 100, 0));
        calls.add(x -> x.skipper(100, 10, 10, 7));
        calls.add(x -> x.sign(7, 0));
        calls.add(x -> x.cargo(0, 1, 100, 1, 70));
        calls.add(x -> x.step(59));
        addCounts(calls);
        addLooks(calls, Busy.SKIPPERS + 1);
        addHalls(calls, 0, 3);
        return calls;
    }

    private static void statesThatRefuse() {
        for (int s = 0; s < Busy.SKIPPERS; s++) {
            int skipper = s;
            if (s != 0) {
                for (int t = 0; t < 8; t++) {
                    int town = t;
                    dueNoChange("sign in state " + s, Busy::make, x -> x.sign(skipper, town), NONE,
                            Busy.CALLS, RefusedTest::busyCalls);
                }
            }
            if (s != 1) {
                dueNoChange("leave in state " + s, Busy::make, x -> as(x.leave(skipper)), 0,
                        Busy.CALLS, RefusedTest::busyCalls);
            }
        }
        for (int s : row(-1, Busy.SKIPPERS, MIN, MAX)) {
            dueNoChange("leave(" + s + ")", Busy::make, x -> as(x.leave(s)), 0, Busy.CALLS, RefusedTest::busyCalls);
        }
        for (int t = 0; t < 8; t++) {
            int town = t;
            dueNoChange("canal to its own town", Busy::make, x -> x.canal(town, town, 1, 400, 0), NONE,
                    Busy.CALLS, RefusedTest::busyCalls);
            dueNoChange("cargo to its own town", Busy::make, x -> x.cargo(town, town, 1, 0, 400), NONE,
                    Busy.CALLS, RefusedTest::busyCalls);
        }
    }

    /** Nothing is there: whatever names a canal, a skipper, a cargo or a byte is refused. */
    private static void emptyRefuses() {
        List<Asked> zero = List.of(x -> as(x.depth(0, 400)), x -> as(x.wants(0, 1, 1)), x -> as(x.leave(0)));
        List<Asked> none = List.of(x -> x.law(1), x -> x.sign(0, 0), x -> x.look(0, 0), x -> x.told(0, 0),
                x -> x.can(0, 0), x -> x.way(0, 0, 0), x -> x.list(0, 0), x -> x.called(0, 0));
        for (Asked call : zero) {
            dueNoChange("of nothing", BargeBourse::new, call, 0, 0, RefusedTest::firstCalls);
        }
        for (Asked call : none) {
            dueNoChange("of nothing", BargeBourse::new, call, NONE, 0, RefusedTest::firstCalls);
        }
    }

    private static List<Asked> firstCalls() {
        List<Asked> calls = new ArrayList<>();
        addCounts(calls);
        addHalls(calls, 0, 1, 2, 3, 4, 5, 6, 7);
        calls.add(x -> x.feed(0x63313b75, 0x31303020, 0, 0, 0));
        calls.add(x -> x.law(7));
        calls.add(x -> x.canal(0, 1, 1, 100, 0));
        calls.add(x -> x.skipper(100, 10, 10, 7));
        calls.add(x -> x.cargo(0, 1, 100, 0, 70));
        calls.add(x -> x.can(0, 0));
        calls.add(x -> x.sign(0, 0));
        addLooks(calls, 1);
        calls.add(x -> x.step(1));
        addLooks(calls, 1);
        addTolds(calls, 1);
        calls.add(x -> x.step(60));
        addLooks(calls, 1);
        addTolds(calls, 1);
        addCounts(calls);
        addHalls(calls, 0, 1);
        return calls;
    }

    /** 60 bytes, 12 canals, 16 skippers in a full list, 60 cargoes. */
    private static BargeBourse full() {
        BargeBourse x = new BargeBourse();
        for (int c = 0; c < 12; c++) {
            x.canal(0, 1 + c % 7, 3 + c, 100, c % 3);
        }
        for (int s = 0; s < 16; s++) {
            x.skipper(50 + 10 * s, 10 + s, 10, 7);
            x.sign(s, 0);
        }
        for (int c = 0; c < 60; c++) {
            x.cargo(0, 1 + c % 7, 10 + 3 * c, c % 3, 7 * c);
        }
        Check.feed(x, "p1;c999;f888;c0012;p0003;u9999;f0999;d9999;c0004;p0002;u0020");
        return x;
    }

    private static void fullRefuses() {
        List<Asked> refused = List.of(x -> x.feed(0x63393b63, 0x393b6339, 0x3b63393b, 0x63393b63, 0x393b6339),
                x -> x.feed(MIN, MAX, -1, 0, MIN), x -> x.law(61), x -> x.law(-1), x -> x.law(MAX), x -> x.law(MIN),
                x -> x.canal(0, 1, 1, 500, 0), x -> x.skipper(600, 1, 20, 7), x -> x.cargo(0, 1, 1, 0, 100000),
                x -> x.cargo(1, 0, 1, 0, 100000), x -> x.sign(0, 0), x -> x.sign(15, 7), x -> x.sign(16, 0),
                x -> x.look(16, 0), x -> x.told(60, 0), x -> x.can(16, 0), x -> x.can(0, 60), x -> x.way(16, 0, 0),
                x -> x.way(0, 60, 0), x -> x.list(0, 16));
        List<Asked> zero = List.of(x -> as(x.depth(12, 400)), x -> as(x.wants(16, 1, 1)), x -> as(x.leave(16)));
        for (Asked call : refused) {
            dueNoChange("all is full", RefusedTest::full, call, NONE, FULL_CALLS, RefusedTest::fullCalls);
        }
        for (Asked call : zero) {
            dueNoChange("all is full", RefusedTest::full, call, 0, FULL_CALLS, RefusedTest::fullCalls);
        }
    }

    private static List<Asked> fullCalls() {
        List<Asked> calls = new ArrayList<>();
        addCounts(calls);
        addLooks(calls, 6);
        addHalls(calls, 0, 1);
        for (int i = 0; i <= 16; i++) {
            int asked = i;
            calls.add(x -> x.list(0, asked));
            calls.add(x -> x.can(15, asked));
            calls.add(x -> x.way(15, asked, 0));
        }
        calls.add(x -> x.law(59));
        addCounts(calls);
        calls.add(x -> x.step(40));
        for (int s = 0; s < 16; s++) {
            int asked = s;
            calls.add(x -> x.look(asked, 0));
            calls.add(x -> x.look(asked, 4));
            calls.add(x -> x.look(asked, 7));
        }
        for (int c = 0; c < 60; c++) {
            int asked = c;
            calls.add(x -> x.told(asked, 1));
        }
        addCounts(calls);
        addHalls(calls, 0, 1);
        return calls;
    }

    private static void aFaultChangesTheTapeAlone() {
        for (String text : new String[] {"x1", "c", "c0", "c1 ", "c9;p9;u9;f9;d9;", ""}) {
            BargeBourse x = Busy.make();
            BargeBourse y = Busy.make();
            x.law(5);
            y.law(5);
            Check.feed(x, text);
            CHECK.due("a fault of \"" + text + "\"", x.law(text.length()) >= 100, true);
            for (Asked call : busyCalls()) {
                CHECK.due("after a fault of \"" + text + "\"", call.of(x), call.of(y));
            }
        }
    }

    /** Whoever asks often finds the bourse as who asks seldom. */
    private static void askingChangesNothing() {
        List<String> asking = List.of("clause", "look", "told", "can", "way", "list", "called", "best", "count");
        for (Kind kind : kinds()) {
            if (asking.contains(kind.name)) {
                for (int[] numbers : List.of(kind.good, kind.least, kind.most)) {
                    long answer = kind.call.of(Busy.make(), numbers);
                    dueNoChange(kind.name + " asked", Busy::make, x -> kind.call.of(x, numbers), answer,
                            Busy.CALLS, RefusedTest::busyCalls);
                }
            }
        }
    }
}
