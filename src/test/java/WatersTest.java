/** Promises 16 and 17: who can carry what, and by which way. */
public final class WatersTest {
    private static final int NONE = BargeBourse.NONE;
    private static final int MAX = Integer.MAX_VALUE;
    private static final int MIN = Integer.MIN_VALUE;
    private static final Check CHECK = new Check("WatersTest");

    public static void main(String[] args) {
        whoCan();
        ways();
        waysAreOfTheCargosTown();
        wayAskedAlone();
        canOfSkippersAndCargoes();
        noWay();
        tonsNotAboveTheHold();
        depthNotBelowTheDraught();
        placesOfTheShortestAndTheLongestWay();
        likeWays();
        whereverTheSkipperIs();
        fullWaters();
        CHECK.end();
    }

    private static void whoCan() {
        BargeBourse x = new BargeBourse();
        x.canal(0, 1, 3, 50, 2);
        x.skipper(100, 40, 10, 5);
        x.cargo(0, 1, 100, 0, 1);
        x.cargo(0, 1, 101, 0, 1);
        x.cargo(0, 1, 50, 1, 1);
        x.cargo(0, 1, 50, 2, 1);
        x.cargo(1, 0, 91, 2, 1);
        x.cargo(0, 2, 1, 0, 1);
        CHECK.dueWay(x, 0, 0, 5, 0);
        CHECK.dueWay(x, 0, 1, 0);
        CHECK.dueWay(x, 0, 2, 0);
        CHECK.dueWay(x, 0, 3, 5, 0);
        CHECK.dueWay(x, 0, 4, 5, 0);
        CHECK.dueWay(x, 0, 5, 0);
        x.depth(0, 49);
        CHECK.dueWay(x, 0, 0, 0);
        CHECK.dueWay(x, 0, 3, 5, 0);
        CHECK.dueWay(x, 0, 4, 0);
        for (int wrong : new int[] {-1, 1, MAX, MIN}) {
            CHECK.due("can(" + wrong + ", 0)", x.can(wrong, 0), NONE);
            CHECK.due("way(" + wrong + ", 0, 0)", x.way(wrong, 0, 0), NONE);
        }
        for (int wrong : new int[] {-1, 6, MAX, MIN}) {
            CHECK.due("can(0, " + wrong + ")", x.can(0, wrong), NONE);
            CHECK.due("way(0, " + wrong + ", 0)", x.way(0, wrong, 0), NONE);
        }
        CHECK.due("way(0, 3, max)", x.way(0, 3, MAX), NONE);
        CHECK.due("way(0, 3, min)", x.way(0, 3, MIN), NONE);
    }

    private static void ways() {
        BargeBourse x = new BargeBourse();
        x.skipper(600, 1, 20, 7);
        x.cargo(0, 3, 20, 0, 1);
        x.canal(2, 3, 2, 2, 1);
        x.canal(0, 2, 1, 2, 1);
        CHECK.dueWay(x, 0, 0, 5, 1, 0);
        x.canal(3, 1, 1, 2, 2);
        x.canal(1, 0, 1, 2, 1);
        CHECK.dueWay(x, 0, 0, 5, 1, 0);
        x.canal(2, 0, 2, 2, 0);
        CHECK.dueWay(x, 0, 0, 5, 1, 0);
        x.canal(0, 3, 6, 2, 0);
        CHECK.dueWay(x, 0, 0, 5, 1, 0);
        x.canal(0, 3, 5, 2, 0);
        CHECK.dueWay(x, 0, 0, 5, 6);
        x.canal(0, 4, 1, 2, 0);
        x.canal(4, 5, 1, 2, 0);
        x.canal(5, 6, 1, 2, 0);
        x.canal(6, 3, 1, 2, 0);
        CHECK.dueWay(x, 0, 0, 4, 7, 8, 9, 10);
        x.depth(9, 1);
        x.depth(6, 1);
        x.depth(1, 1);
        CHECK.dueWay(x, 0, 0, 5, 3, 2);
        x.depth(3, 1);
        CHECK.dueWay(x, 0, 0, 5, 4, 0);
        x.depth(4, 1);
        CHECK.dueWay(x, 0, 0, 6, 5);
        x.depth(5, 1);
        CHECK.dueWay(x, 0, 0, 0);
    }

    private static void waysAreOfTheCargosTown() {
        BargeBourse x = new BargeBourse();
        for (int t = 0; t < 7; t++) {
            x.canal(t, t + 1, 48, 500, 12);
        }
        x.skipper(600, 300, 3, 4);
        x.sign(0, 5);
        x.cargo(0, 7, 600, 2, 1);
        x.cargo(7, 0, 600, 2, 1);
        CHECK.dueWay(x, 0, 0, 420, 0, 1, 2, 3, 4, 5, 6);
        CHECK.dueWay(x, 0, 1, 420, 6, 5, 4, 3, 2, 1, 0);
    }

    private static void wayAskedAlone() {
        BargeBourse x = new BargeBourse();
        x.canal(0, 1, 1, 100, 0);
        x.canal(1, 2, 1, 100, 0);
        x.skipper(10, 10, 10, 1);
        x.cargo(0, 1, 10, 0, 0);
        x.cargo(0, 2, 10, 0, 0);
        x.cargo(0, 1, 11, 0, 0);
        CHECK.due("way(0, 1, 1)", x.way(0, 1, 1), 1);
        CHECK.due("way(0, 0, 1)", x.way(0, 0, 1), NONE);
        CHECK.due("way(0, 0, 0)", x.way(0, 0, 0), 0);
        CHECK.due("way(0, 2, 0)", x.way(0, 2, 0), NONE);
        CHECK.due("way(0, 1, 0)", x.way(0, 1, 0), 0);
    }

    private static BargeBourse withAll(int skippers, int cargoes) {
        BargeBourse x = new BargeBourse();
        x.canal(0, 1, 2, 100, 1);
        for (int s = 0; s < skippers; s++) {
            x.skipper(10, 10, 10, 1);
        }
        for (int c = 0; c < cargoes; c++) {
            x.cargo(0, 1, 10, 0, 0);
        }
        return x;
    }

    private static void canOfSkippersAndCargoes() {
        BargeBourse none = withAll(0, 0);
        CHECK.due("no skipper, no cargo", none.can(0, 0), NONE);
        CHECK.due("no cargo", withAll(1, 0).can(0, 0), NONE);
        CHECK.due("no skipper", withAll(0, 1).can(0, 0), NONE);
        CHECK.due("no skipper, no cargo", none.way(0, 0, 0), NONE);
        CHECK.due("no cargo", withAll(1, 0).way(0, 0, 0), NONE);
        CHECK.due("no skipper", withAll(0, 1).way(0, 0, 0), NONE);
        BargeBourse some = withAll(3, 5);
        CHECK.dueRange("can, skipper", 0, 2, 3, NONE, s -> some.can(s, 0));
        CHECK.dueRange("can, cargo", 0, 4, 3, NONE, c -> some.can(0, c));
        CHECK.dueRange("way, skipper", 0, 2, 0, NONE, s -> some.way(s, 0, 0));
        CHECK.dueRange("way, cargo", 0, 4, 0, NONE, c -> some.way(0, c, 0));
        CHECK.dueRange("way, place", 0, 0, 0, NONE, i -> some.way(0, 0, i));
        BargeBourse full = withAll(16, 60);
        CHECK.dueRange("can, skipper of 16", 0, 15, 3, NONE, s -> full.can(s, 59));
        CHECK.dueRange("can, cargo of 60", 0, 59, 3, NONE, c -> full.can(15, c));
        CHECK.dueRange("way, skipper of 16", 0, 15, 0, NONE, s -> full.way(s, 59, 0));
        CHECK.dueRange("way, cargo of 60", 0, 59, 0, NONE, c -> full.way(15, c, 0));
    }

    private static void noWay() {
        BargeBourse x = new BargeBourse();
        x.skipper(600, 1, 20, 7);
        x.cargo(0, 7, 1, 0, 0);
        CHECK.dueWay(x, 0, 0, 0);
        x.canal(0, 1, 1, 500, 0);
        x.canal(7, 2, 1, 500, 0);
        CHECK.dueWay(x, 0, 0, 0);
        x.canal(1, 2, 1, 1, 0);
        CHECK.dueWay(x, 0, 0, 0);
        x.depth(2, 2);
        CHECK.dueWay(x, 0, 0, 3, 0, 2, 1);
        x.depth(0, 0);
        CHECK.dueWay(x, 0, 0, 0);
        CHECK.due("way(0, 0, max)", x.way(0, 0, MAX), NONE);
        CHECK.due("way(0, 0, min)", x.way(0, 0, MIN), NONE);
    }

    private static void tonsNotAboveTheHold() {
        for (int hold : new int[] {1, 2, 599, 600}) {
            BargeBourse x = new BargeBourse();
            x.canal(0, 1, 1, 500, 0);
            x.skipper(hold, 1, 20, 1);
            x.cargo(0, 1, 1, 0, 0);
            x.cargo(0, 1, hold, 0, 0);
            CHECK.due("hold " + hold + ", 1 ton", x.can(0, 0), 1);
            CHECK.due("hold " + hold + ", as many tons", x.can(0, 1), 1);
            if (hold < 600) {
                x.cargo(0, 1, hold + 1, 0, 0);
                CHECK.due("hold " + hold + ", a ton more", x.can(0, 2), 0);
            }
        }
    }

    private static void depthNotBelowTheDraught() {
        BargeBourse x = new BargeBourse();
        x.canal(0, 1, 1, 500, 0);
        x.canal(1, 2, 1, 61, 0);
        x.skipper(600, 50, 10, 1);
        x.cargo(0, 2, 101, 0, 0);
        CHECK.dueWay(x, 0, 0, 2, 0, 1);
        x.depth(1, 60);
        CHECK.dueWay(x, 0, 0, 0);
        x.depth(1, 500);
        x.depth(0, 61);
        CHECK.dueWay(x, 0, 0, 2, 0, 1);
        x.depth(0, 60);
        CHECK.dueWay(x, 0, 0, 0);
        x.skipper(600, 300, 1, 1);
        x.cargo(0, 2, 200, 0, 0);
        x.cargo(0, 2, 201, 0, 0);
        x.depth(0, 500);
        CHECK.dueWay(x, 1, 1, 2, 0, 1);
        CHECK.dueWay(x, 1, 2, 0);
    }

    private static void placesOfTheShortestAndTheLongestWay() {
        BargeBourse x = new BargeBourse();
        for (int t = 0; t < 7; t++) {
            x.canal(t, t + 1, 1, 100, 0);
        }
        x.skipper(10, 10, 10, 1);
        x.cargo(0, 1, 10, 0, 0);
        x.cargo(0, 7, 10, 0, 0);
        CHECK.dueRange("the shortest way", 0, 0, 0, NONE, i -> x.way(0, 0, i));
        for (int i : new int[] {-1, 7, MIN, MAX}) {
            CHECK.due("the longest way, place " + i, x.way(0, 1, i), NONE);
        }
        CHECK.dueWay(x, 0, 1, 7, 0, 1, 2, 3, 4, 5, 6);
    }

    private static void likeWays() {
        BargeBourse x = new BargeBourse();
        x.skipper(10, 10, 10, 1);
        x.cargo(0, 3, 10, 0, 0);
        x.canal(0, 1, 1, 100, 0);
        x.canal(1, 2, 1, 100, 0);
        x.canal(2, 3, 1, 100, 0);
        CHECK.dueWay(x, 0, 0, 3, 0, 1, 2);
        x.canal(1, 3, 1, 100, 1);
        CHECK.dueWay(x, 0, 0, 3, 0, 3);
        x.canal(3, 1, 2, 100, 0);
        CHECK.dueWay(x, 0, 0, 3, 0, 3);
        x.canal(0, 3, 3, 100, 1);
        CHECK.dueWay(x, 0, 0, 3, 0, 3);
        x.canal(0, 3, 1, 100, 2);
        CHECK.dueWay(x, 0, 0, 3, 6);
        x.canal(3, 0, 3, 100, 0);
        CHECK.dueWay(x, 0, 0, 3, 6);
        x.depth(6, 10);
        CHECK.dueWay(x, 0, 0, 3, 7);
        x.canal(3, 0, 2, 100, 0);
        CHECK.dueWay(x, 0, 0, 2, 8);
    }

    private static void whereverTheSkipperIs() {
        BargeBourse x = Busy.make();
        for (int s = 0; s < Busy.SKIPPERS; s++) {
            CHECK.dueWay(x, s, 0, 1, 0);
            CHECK.dueWay(x, s, 2, 60, 1);
            CHECK.dueWay(x, s, 3, 0);
            CHECK.dueWay(x, s, 4, 2, 3);
        }
        x.step(55);
        CHECK.due("the cargo is brought", x.told(0, 0), 2);
        CHECK.dueWay(x, 6, 0, 1, 0);
    }

    private static void fullWaters() {
        BargeBourse x = new BargeBourse();
        x.skipper(10, 10, 10, 1);
        x.cargo(0, 7, 10, 0, 0);
        for (int c = 0; c < 11; c++) {
            x.canal(c % 7, (c + 1) % 7, 1, 100, 0);
        }
        CHECK.dueWay(x, 0, 0, 0);
        x.canal(7, 6, 48, 100, 12);
        CHECK.dueWay(x, 0, 0, 61, 6, 11);
        x.depth(6, 10);
        CHECK.dueWay(x, 0, 0, 66, 0, 1, 2, 3, 4, 5, 11);
    }
}
