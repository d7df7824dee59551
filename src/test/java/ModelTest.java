import java.util.Random;

/** All promises: random runs of up to 512 calls, each answer beside that of the plain model. */
public final class ModelTest {
    private static final Check CHECK = new Check("ModelTest");
    private static final int RUNS = 400;
    private static final String[] CLAUSES = {
        "c1", "c2", "c3", "c7", "c24", "c0", "p0", "p1", "p2", "p9", "p10", "u1", "u7", "u50", "u200", "u9999",
        "f0", "f1", "f3", "f999", "d0", "d7", "d9999", "d10000", "x1", "c", "u5 ", ""};

    private final Random random;
    private final BargeBourse x = new BargeBourse();
    private final PlainBourse y = new PlainBourse();
    private final int towns;
    private final int run;
    private int calls = 0;

    private ModelTest(int run) {
        this.run = run;
        random = new Random(run);
        towns = 2 + random.nextInt(7);
    }

    public static void main(String[] args) {
        for (int run = 0; run < RUNS; run++) {
            ModelTest test = new ModelTest(run);
            test.found();
            while (test.calls < 512) {
                test.anyCall();
            }
            test.compareAll();
        }
        CHECK.end();
    }

    private void due(String call, long got, long want) {
        calls++;
        CHECK.due("run " + run + ", call " + calls + ": " + call, got, want);
    }

    private void due(String call, boolean got, boolean want) {
        due(call, got ? 1L : 0L, want ? 1L : 0L);
    }

    private int from(int least, int most) {
        return least + random.nextInt(most - least + 1);
    }

    /** Mostly within the two, at times one beside them or far away. */
    private int about(int least, int most) {
        switch (random.nextInt(60)) {
            case 0: return least - 1;
            case 1: return most + 1;
            case 2: return random.nextBoolean() ? Integer.MAX_VALUE : Integer.MIN_VALUE;
            case 3: return random.nextInt();
            case 4: return least;
            case 5: return most;
            default: return from(least, most);
        }
    }

    private int town() {
        return random.nextInt(80) == 0 ? about(0, 7) : random.nextInt(towns);
    }

    private int skipper() {
        return about(0, Math.max(0, x.count(2) - 1));
    }

    private int cargo() {
        return about(0, Math.max(0, x.count(3) - 1));
    }

    private void found() {
        tellLaw("c" + from(1, 6) + ";p" + from(0, 3) + ";u" + from(10, 99) + ";f" + from(0, 3) + ";d" + from(0, 99));
        for (int i = from(1, 12); i > 0; i--) {
            makeCanal();
        }
        for (int i = from(1, 16); i > 0; i--) {
            makeSkipper();
        }
    }

    private void tellLaw(String text) {
        byte[] bytes = text.getBytes(java.nio.charset.StandardCharsets.ISO_8859_1);
        for (int at = 0; at < bytes.length; at += 20) {
            int[] f = Check.ints(bytes, at);
            due("feed", x.feed(f[0], f[1], f[2], f[3], f[4]), y.feed(f));
        }
        int n = random.nextInt(20) == 0 ? from(-1, 61) : bytes.length;
        due("law(" + n + ") of " + text, x.law(n), y.law(n));
    }

    private void anyLaw() {
        StringBuilder text = new StringBuilder(CLAUSES[random.nextInt(random.nextInt(4) == 0 ? CLAUSES.length : 5)]);
        for (int i = random.nextInt(5); i > 0; i--) {
            text.append(random.nextInt(30) == 0 ? "," : ";").append(CLAUSES[random.nextInt(CLAUSES.length)]);
        }
        tellLaw(text.toString());
    }

    private void makeCanal() {
        int a = town();
        int b = town();
        int hours = random.nextBoolean() ? from(1, 4) : about(1, 48);
        int depth = random.nextInt(3) == 0 ? about(0, 500) : from(30, 120);
        int lock = random.nextBoolean() ? from(0, 2) : about(0, 12);
        due("canal", x.canal(a, b, hours, depth, lock), y.canal(a, b, hours, depth, lock));
    }

    private void makeSkipper() {
        int hold = random.nextBoolean() ? from(50, 600) : about(1, 600);
        int empty = random.nextInt(5) == 0 ? about(1, 300) : from(1, 50);
        int tons = about(1, 20);
        int kinds = random.nextBoolean() ? 7 : about(1, 7);
        due("skipper", x.skipper(hold, empty, tons, kinds), y.skipper(hold, empty, tons, kinds));
    }

    private void makeCargo() {
        int a = town();
        int b = town();
        int tons = random.nextInt(3) == 0 ? about(1, 600) : from(1, 120);
        int kind = about(0, 2);
        int pence = random.nextInt(3) == 0 ? about(0, 100000) : from(0, 2000);
        due("cargo", x.cargo(a, b, tons, kind, pence), y.cargo(a, b, tons, kind, pence));
    }

    private void anyCall() {
        int kind = random.nextInt(100);
        if (kind < 3) {
            anyLaw();
        } else if (kind < 15) {
            makeCargo();
        } else if (kind < 40) {
            changeOne();
        } else if (kind < 55) {
            int n = random.nextInt(10) == 0 ? about(1, 200) : from(1, 5);
            due("step(" + n + ")", x.step(n), y.step(n));
        } else {
            askOne();
        }
    }

    private void changeOne() {
        int s = skipper();
        int t = town();
        switch (random.nextInt(8)) {
            case 0 -> {
                int n = about(1, 4);
                due("town", x.town(t, n), y.town(t, n));
            }
            case 1 -> makeCanal();
            case 2 -> {
                int c = about(0, Math.max(0, x.count(1) - 1));
                int cm = random.nextBoolean() ? from(20, 120) : about(0, 500);
                due("depth", x.depth(c, cm), y.depth(c, cm));
            }
            case 3 -> makeSkipper();
            case 4 -> {
                int pence = random.nextBoolean() ? from(0, 30) : about(0, 1000);
                int refused = random.nextBoolean() ? 1 << from(0, 7) : about(0, 255);
                due("wants", x.wants(s, pence, refused), y.wants(s, pence, refused));
            }
            case 5, 6 -> due("sign(" + s + ", " + t + ")", x.sign(s, t), y.sign(s, t));
            default -> due("leave(" + s + ")", x.leave(s), y.leave(s));
        }
    }

    private void askOne() {
        int s = skipper();
        int c = cargo();
        int t = town();
        int i = about(0, 6);
        int what = about(0, 9);
        switch (random.nextInt(10)) {
            case 0 -> due("clause(" + i + ")", x.clause(i), y.clause(i));
            case 1 -> due("told(" + c + ", " + i + ")", x.told(c, i), y.told(c, i));
            case 2 -> due("can(" + s + ", " + c + ")", x.can(s, c), y.can(s, c));
            case 3 -> due("way(" + s + ", " + c + ", " + i + ")", x.way(s, c, i), y.way(s, c, i));
            case 4 -> due("list(" + t + ", " + i + ")", x.list(t, i), y.list(t, i));
            case 5 -> due("called(" + t + ", " + i + ")", x.called(t, i), y.called(t, i));
            case 6 -> due("best(" + t + ")", x.best(t), y.best(t));
            case 7 -> due("count(" + what + ")", x.count(what), y.count(what));
            default -> due("look(" + s + ", " + what + ")", x.look(s, what), y.look(s, what));
        }
    }

    private void compareAll() {
        for (int s = 0; s < 16; s++) {
            for (int what = 0; what < 10; what++) {
                due("end: look(" + s + ", " + what + ")", x.look(s, what), y.look(s, what));
            }
        }
        for (int c = 0; c < 60; c++) {
            for (int what = 0; what < 5; what++) {
                due("end: told(" + c + ", " + what + ")", x.told(c, what), y.told(c, what));
            }
        }
        for (int t = 0; t < 8; t++) {
            due("end: best(" + t + ")", x.best(t), y.best(t));
            for (int i = 0; i < 17; i++) {
                due("end: list(" + t + ", " + i + ")", x.list(t, i), y.list(t, i));
                due("end: called(" + t + ", " + i + ")", x.called(t, i), y.called(t, i));
            }
        }
    }
}
