/** Promises 5 to 9 and 12 (what is refused), 16 and 17 (who can carry what, and by which way). */
public final class WatersTest {
    private static final int NONE = BargeBourse.NONE;
    private static final int MAX = Integer.MAX_VALUE;
    private static final int MIN = Integer.MIN_VALUE;
    private static final Check CHECK = new Check("WatersTest");

    public static void main(String[] args) {
        towns();
        canals();
        depths();
        skippers();
        wants();
        cargoes();
        whoCan();
        ways();
        waysAreOfTheCargosTown();
        wayAskedAlone();
        CHECK.end();
    }

    private static void towns() {
        BargeBourse x = new BargeBourse();
        for (int t : new int[] {-1, 8, MAX, MIN}) {
            CHECK.due("town(" + t + ", 1)", x.town(t, 1), false);
        }
        for (int berths : new int[] {0, 5, -1, MAX, MIN}) {
            CHECK.due("town(0, " + berths + ")", x.town(0, berths), false);
        }
        for (int t = 0; t < 8; t++) {
            for (int berths = 1; berths <= 4; berths++) {
                CHECK.due("town(" + t + ", " + berths + ")", x.town(t, berths), true);
            }
        }
    }

    private static void canals() {
        BargeBourse x = new BargeBourse();
        CHECK.due("a = b", x.canal(3, 3, 1, 1, 0), NONE);
        CHECK.due("a -1", x.canal(-1, 3, 1, 1, 0), NONE);
        CHECK.due("b 8", x.canal(3, 8, 1, 1, 0), NONE);
        CHECK.due("a 8", x.canal(8, 3, 1, 1, 0), NONE);
        CHECK.due("b min", x.canal(3, MIN, 1, 1, 0), NONE);
        CHECK.due("hours 0", x.canal(0, 7, 0, 1, 0), NONE);
        CHECK.due("hours 49", x.canal(0, 7, 49, 1, 0), NONE);
        CHECK.due("depth -1", x.canal(0, 7, 1, -1, 0), NONE);
        CHECK.due("depth 501", x.canal(0, 7, 1, 501, 0), NONE);
        CHECK.due("lock -1", x.canal(0, 7, 1, 1, -1), NONE);
        CHECK.due("lock 13", x.canal(0, 7, 1, 1, 13), NONE);
        CHECK.due("none is there", x.count(1), 0);
        CHECK.due("the least", x.canal(0, 7, 1, 0, 0), 0);
        CHECK.due("the most", x.canal(7, 0, 48, 500, 12), 1);
        for (int c = 2; c < 12; c++) {
            CHECK.due("like ones", x.canal(0, 7, 1, 0, 0), c);
        }
        CHECK.due("a thirteenth", x.canal(0, 1, 1, 1, 0), NONE);
        CHECK.due("count(1)", x.count(1), 12);
    }

    private static void depths() {
        BargeBourse x = new BargeBourse();
        CHECK.due("no canal", x.depth(0, 100), false);
        x.canal(0, 1, 1, 100, 0);
        for (int c : new int[] {-1, 1, 12, MAX, MIN}) {
            CHECK.due("depth(" + c + ", 100)", x.depth(c, 100), false);
        }
        for (int cm : new int[] {-1, 501, MAX, MIN}) {
            CHECK.due("depth(0, " + cm + ")", x.depth(0, cm), false);
        }
        x.skipper(600, 300, 3, 1);
        x.cargo(0, 1, 600, 0, 1);
        CHECK.due("depth 0", x.depth(0, 0), true);
        CHECK.due("can with depth 0", x.can(0, 0), 0);
        CHECK.due("depth 500", x.depth(0, 500), true);
        CHECK.due("can with depth 500", x.can(0, 0), 1);
        CHECK.due("depth refused", x.depth(0, 501), false);
        CHECK.due("can still", x.can(0, 0), 1);
        CHECK.due("depth 499", x.depth(0, 499), true);
        CHECK.due("can with depth 499", x.can(0, 0), 0);
    }

    private static void skippers() {
        BargeBourse x = new BargeBourse();
        for (int wrong : new int[] {0, 601, -1, MAX, MIN}) {
            CHECK.due("hold " + wrong, x.skipper(wrong, 1, 1, 1), NONE);
        }
        for (int wrong : new int[] {0, 301, -1, MAX, MIN}) {
            CHECK.due("empty " + wrong, x.skipper(1, wrong, 1, 1), NONE);
        }
        for (int wrong : new int[] {0, 21, -1, MAX, MIN}) {
            CHECK.due("tons " + wrong, x.skipper(1, 1, wrong, 1), NONE);
        }
        for (int wrong : new int[] {0, 8, -1, MAX, MIN}) {
            CHECK.due("kinds " + wrong, x.skipper(1, 1, 1, wrong), NONE);
        }
        CHECK.due("none is there", x.count(2), 0);
        CHECK.due("the least", x.skipper(1, 1, 1, 1), 0);
        CHECK.due("the most", x.skipper(600, 300, 20, 7), 1);
        for (int s = 2; s < 16; s++) {
            CHECK.due("like ones", x.skipper(10, 10, 10, 2), s);
        }
        CHECK.due("a seventeenth", x.skipper(10, 10, 10, 2), NONE);
        CHECK.due("count(2)", x.count(2), 16);
        CHECK.dueLook(x, 1, 0, NONE, NONE, 0, NONE, 0, 0, 0, NONE, 300);
        CHECK.dueLook(x, 15, 0, NONE, NONE, 0, NONE, 0, 0, 0, NONE, 10);
        CHECK.due("look(16, 0)", x.look(16, 0), NONE);
    }

    private static void wants() {
        BargeBourse x = new BargeBourse();
        CHECK.due("no skipper", x.wants(0, 0, 0), false);
        x.skipper(10, 10, 10, 1);
        for (int s : new int[] {-1, 1, 16, MAX, MIN}) {
            CHECK.due("wants(" + s + ")", x.wants(s, 0, 0), false);
        }
        for (int wrong : new int[] {-1, 1001, MAX, MIN}) {
            CHECK.due("pence " + wrong, x.wants(0, wrong, 0), false);
        }
        for (int wrong : new int[] {-1, 256, MAX, MIN}) {
            CHECK.due("towns " + wrong, x.wants(0, 0, wrong), false);
        }
        CHECK.due("the most", x.wants(0, 1000, 255), true);
        CHECK.due("the least", x.wants(0, 0, 0), true);
    }

    private static void cargoes() {
        BargeBourse x = new BargeBourse();
        CHECK.due("from = to", x.cargo(2, 2, 1, 0, 0), NONE);
        CHECK.due("from -1", x.cargo(-1, 2, 1, 0, 0), NONE);
        CHECK.due("from 8", x.cargo(8, 2, 1, 0, 0), NONE);
        CHECK.due("to -1", x.cargo(2, -1, 1, 0, 0), NONE);
        CHECK.due("to 8", x.cargo(2, 8, 1, 0, 0), NONE);
        for (int wrong : new int[] {0, 601, -1, MAX, MIN}) {
            CHECK.due("tons " + wrong, x.cargo(0, 1, wrong, 0, 0), NONE);
        }
        for (int wrong : new int[] {-1, 3, MAX, MIN}) {
            CHECK.due("kind " + wrong, x.cargo(0, 1, 1, wrong, 0), NONE);
        }
        for (int wrong : new int[] {-1, 100001, MAX, MIN}) {
            CHECK.due("pence " + wrong, x.cargo(0, 1, 1, 0, wrong), NONE);
        }
        CHECK.due("none is there", x.count(3), 0);
        CHECK.due("the least", x.cargo(0, 7, 1, 0, 0), 0);
        CHECK.due("the most", x.cargo(7, 0, 600, 2, 100000), 1);
        for (int c = 2; c < 60; c++) {
            CHECK.due("like ones", x.cargo(0, 1, 10, 1, 10), c);
        }
        CHECK.due("a sixty-first", x.cargo(0, 1, 10, 1, 10), NONE);
        CHECK.due("count(3)", x.count(3), 60);
        CHECK.due("count(4)", x.count(4), 60);
        CHECK.dueTold(x, 59, 0, NONE, NONE, NONE, NONE);
        CHECK.due("told(60, 0)", x.told(60, 0), NONE);
        CHECK.due("told(-1, 0)", x.told(-1, 0), NONE);
        CHECK.due("told(0, 5)", x.told(0, 5), NONE);
        CHECK.due("told(0, -1)", x.told(0, -1), NONE);
    }

    private static void whoCan() {
        BargeBourse x = new BargeBourse();
        x.canal(0, 1, 3, 50, 2);
        x.skipper(100, 40, 10, 5);
        x.cargo(0, 1, 100, 0, 1);
        x.cargo(0, 1, 101, 0, 1);
        x.cargo(0, 1, 50, 1, 1);
        x.cargo(0, 1, 50, 2, 1);
        x.cargo(1, 0, 91, 2, 1);
        x.cargo(0, 2, 1, 0, 1);
        CHECK.dueWay(x, 0, 0, 5, 0);
        CHECK.dueWay(x, 0, 1, 0);
        CHECK.dueWay(x, 0, 2, 0);
        CHECK.dueWay(x, 0, 3, 5, 0);
        CHECK.dueWay(x, 0, 4, 5, 0);
        CHECK.dueWay(x, 0, 5, 0);
        x.depth(0, 49);
        CHECK.dueWay(x, 0, 0, 0);
        CHECK.dueWay(x, 0, 3, 5, 0);
        CHECK.dueWay(x, 0, 4, 0);
        for (int wrong : new int[] {-1, 1, MAX, MIN}) {
            CHECK.due("can(" + wrong + ", 0)", x.can(wrong, 0), NONE);
            CHECK.due("way(" + wrong + ", 0, 0)", x.way(wrong, 0, 0), NONE);
        }
        for (int wrong : new int[] {-1, 6, MAX, MIN}) {
            CHECK.due("can(0, " + wrong + ")", x.can(0, wrong), NONE);
            CHECK.due("way(0, " + wrong + ", 0)", x.way(0, wrong, 0), NONE);
        }
        CHECK.due("way(0, 3, max)", x.way(0, 3, MAX), NONE);
        CHECK.due("way(0, 3, min)", x.way(0, 3, MIN), NONE);
    }

    private static void ways() {
        BargeBourse x = new BargeBourse();
        x.skipper(600, 1, 20, 7);
        x.cargo(0, 3, 20, 0, 1);
        x.canal(2, 3, 2, 2, 1);
        x.canal(0, 2, 1, 2, 1);
        CHECK.dueWay(x, 0, 0, 5, 1, 0);
        x.canal(3, 1, 1, 2, 2);
        x.canal(1, 0, 1, 2, 1);
        CHECK.dueWay(x, 0, 0, 5, 1, 0);
        x.canal(2, 0, 2, 2, 0);
        CHECK.dueWay(x, 0, 0, 5, 1, 0);
        x.canal(0, 3, 6, 2, 0);
        CHECK.dueWay(x, 0, 0, 5, 1, 0);
        x.canal(0, 3, 5, 2, 0);
        CHECK.dueWay(x, 0, 0, 5, 6);
        x.canal(0, 4, 1, 2, 0);
        x.canal(4, 5, 1, 2, 0);
        x.canal(5, 6, 1, 2, 0);
        x.canal(6, 3, 1, 2, 0);
        CHECK.dueWay(x, 0, 0, 4, 7, 8, 9, 10);
        x.depth(9, 1);
        x.depth(6, 1);
        x.depth(1, 1);
        CHECK.dueWay(x, 0, 0, 5, 3, 2);
        x.depth(3, 1);
        CHECK.dueWay(x, 0, 0, 5, 4, 0);
        x.depth(4, 1);
        CHECK.dueWay(x, 0, 0, 6, 5);
        x.depth(5, 1);
        CHECK.dueWay(x, 0, 0, 0);
    }

    private static void waysAreOfTheCargosTown() {
        BargeBourse x = new BargeBourse();
        for (int t = 0; t < 7; t++) {
            x.canal(t, t + 1, 48, 500, 12);
        }
        x.skipper(600, 300, 3, 4);
        x.sign(0, 5);
        x.cargo(0, 7, 600, 2, 1);
        x.cargo(7, 0, 600, 2, 1);
        CHECK.dueWay(x, 0, 0, 420, 0, 1, 2, 3, 4, 5, 6);
        CHECK.dueWay(x, 0, 1, 420, 6, 5, 4, 3, 2, 1, 0);
    }

    private static void wayAskedAlone() {
        BargeBourse x = new BargeBourse();
        x.canal(0, 1, 1, 100, 0);
        x.canal(1, 2, 1, 100, 0);
        x.skipper(10, 10, 10, 1);
        x.cargo(0, 1, 10, 0, 0);
        x.cargo(0, 2, 10, 0, 0);
        x.cargo(0, 1, 11, 0, 0);
        CHECK.due("way(0, 1, 1)", x.way(0, 1, 1), 1);
        CHECK.due("way(0, 0, 1)", x.way(0, 0, 1), NONE);
        CHECK.due("way(0, 0, 0)", x.way(0, 0, 0), 0);
        CHECK.due("way(0, 2, 0)", x.way(0, 2, 0), NONE);
        CHECK.due("way(0, 1, 0)", x.way(0, 1, 0), 0);
    }
}
