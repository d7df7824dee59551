import java.util.function.IntToLongFunction;

/** The edges of promises 5 to 9 and 12: what is told of towns, canals, skippers and cargoes. */
public final class MakingEdgesTest {
    private static final int NONE = BargeBourse.NONE;
    private static final Check CHECK = new Check("MakingEdgesTest");

    public static void main(String[] args) {
        townsOfATown();
        berthsOfATown();
        townsOfACanal();
        numbersOfACanal();
        twelveCanals();
        depthOfACanal();
        depthOfCanalsThatAreThere();
        depthAtItsEnds();
        numbersOfASkipper();
        kindsAreBits();
        sixteenSkippers();
        newSkipperIsOff();
        wantsOfSkippersThatAreThere();
        numbersOfWants();
        townsOfACargo();
        numbersOfACargo();
        sixtyCargoes();
        newCargoWaits();
        refusedUsesUpNoNumber();
        CHECK.end();
    }

    private static BargeBourse withCanal(int depth) {
        BargeBourse x = new BargeBourse();
        x.canal(0, 1, 1, depth, 0);
        return x;
    }

    private static void townsOfATown() {
        CHECK.dueRange("town", 0, 7, t -> new BargeBourse().town(t, 1));
        for (int t = 0; t < 8; t++) {
            CHECK.due("town " + t, new BargeBourse().town(t, 4), true);
        }
    }

    private static void berthsOfATown() {
        CHECK.dueRange("berths", 1, 4, n -> new BargeBourse().town(7, n));
        BargeBourse x = new BargeBourse();
        for (int n : new int[] {4, 1, 3, 2, 2}) {
            CHECK.due("berths told anew", x.town(0, n), true);
        }
    }

    private static void townsOfACanal() {
        CHECK.dueRange("a", 0, 7, 0, NONE, a -> new BargeBourse().canal(a, 3, 1, 1, 0));
        CHECK.dueRange("b", 0, 7, 0, NONE, b -> new BargeBourse().canal(3, b, 1, 1, 0));
        for (int a = 0; a < 8; a++) {
            for (int b = 0; b < 8; b++) {
                int due = a == b ? NONE : 0;
                CHECK.due("canal " + a + " " + b, new BargeBourse().canal(a, b, 1, 1, 0), due);
            }
        }
        CHECK.due("two that are no towns", new BargeBourse().canal(8, 9, 1, 1, 0), NONE);
        CHECK.due("two that are no towns", new BargeBourse().canal(-1, -1, 1, 1, 0), NONE);
    }

    private static void numbersOfACanal() {
        CHECK.dueRange("hours", 1, 48, 0, NONE, n -> new BargeBourse().canal(0, 7, n, 1, 0));
        CHECK.dueRange("depth", 0, 500, 0, NONE, n -> new BargeBourse().canal(0, 7, 1, n, 0));
        CHECK.dueRange("lock", 0, 12, 0, NONE, n -> new BargeBourse().canal(0, 7, 1, 1, n));
        CHECK.due("all the least", new BargeBourse().canal(0, 1, 1, 0, 0), 0);
        CHECK.due("all the greatest", new BargeBourse().canal(7, 6, 48, 500, 12), 0);
    }

    private static void twelveCanals() {
        BargeBourse x = new BargeBourse();
        for (int c = 0; c < 12; c++) {
            CHECK.due("the next canal", x.canal(0, 1 + c % 7, 1, 1, 0), c);
            CHECK.due("canals that are there", x.count(1), c + 1);
        }
        CHECK.due("a thirteenth", x.canal(2, 3, 1, 1, 0), NONE);
        CHECK.due("canals that are there", x.count(1), 12);
        CHECK.due("the twelfth", x.depth(11, 7), true);
        CHECK.due("the thirteenth", x.depth(12, 7), false);
    }

    private static void depthOfACanal() {
        CHECK.dueRange("depth", 0, 500, n -> withCanal(1).depth(0, n));
        CHECK.dueRange("canal, one is there", 0, 0, c -> withCanal(1).depth(c, 1));
    }

    private static void depthOfCanalsThatAreThere() {
        BargeBourse x = new BargeBourse();
        for (int c = 0; c < 12; c++) {
            CHECK.due("canal " + c + " is not there yet", x.depth(c, 1), false);
            x.canal(0, 1, 1, 1, 0);
            CHECK.due("canal " + c + " is there", x.depth(c, 1), true);
        }
        CHECK.dueRange("canal, all are there", 0, 11, c -> x.depth(c, 1));
    }

    private static void depthAtItsEnds() {
        BargeBourse x = withCanal(0);
        x.skipper(600, 300, 3, 1);
        x.cargo(0, 1, 600, 0, 1);
        CHECK.due("nobody can in a canal of 0 cm", x.can(0, 0), 0);
        x.depth(0, 500);
        CHECK.due("a draught of 500 cm in 500 cm", x.can(0, 0), 1);
        x.depth(0, 501);
        CHECK.due("a refused depth is not told", x.can(0, 0), 1);
        x.depth(0, 499);
        CHECK.due("a draught of 500 cm in 499 cm", x.can(0, 0), 0);
        x.depth(0, -1);
        x.cargo(0, 1, 599, 0, 1);
        CHECK.due("599 tons press it as deep", x.can(0, 1), 0);
        x.cargo(0, 1, 597, 0, 1);
        CHECK.due("a draught of 499 cm in 499 cm", x.can(0, 2), 1);
        BargeBourse y = withCanal(1);
        y.skipper(1, 1, 20, 1);
        y.cargo(0, 1, 1, 0, 1);
        CHECK.due("the least draught with a load is 2 cm", y.can(0, 0), 0);
        y.depth(0, 2);
        CHECK.due("the least draught in 2 cm", y.can(0, 0), 1);
    }

    private static void numbersOfASkipper() {
        CHECK.dueRange("hold", 1, 600, 0, NONE, n -> new BargeBourse().skipper(n, 1, 1, 1));
        CHECK.dueRange("empty", 1, 300, 0, NONE, n -> new BargeBourse().skipper(1, n, 1, 1));
        CHECK.dueRange("tons", 1, 20, 0, NONE, n -> new BargeBourse().skipper(1, 1, n, 1));
        CHECK.dueRange("kinds", 1, 7, 0, NONE, n -> new BargeBourse().skipper(1, 1, 1, n));
        CHECK.due("all the least", new BargeBourse().skipper(1, 1, 1, 1), 0);
        CHECK.due("all the greatest", new BargeBourse().skipper(600, 300, 20, 7), 0);
    }

    private static void kindsAreBits() {
        for (int kinds = 1; kinds <= 7; kinds++) {
            BargeBourse x = withCanal(100);
            x.skipper(10, 10, 10, kinds);
            for (int kind = 0; kind <= 2; kind++) {
                x.cargo(0, 1, 10, kind, 0);
                CHECK.due("kinds " + kinds + ", kind " + kind, x.can(0, kind), (kinds >> kind) & 1);
            }
        }
    }

    private static void sixteenSkippers() {
        BargeBourse x = new BargeBourse();
        for (int s = 0; s < 16; s++) {
            CHECK.due("skipper " + s + " is not there yet", x.look(s, 0), NONE);
            CHECK.due("the next skipper", x.skipper(1 + s, 1 + s, 1 + s, 1), s);
            CHECK.due("skippers that are there", x.count(2), s + 1);
            CHECK.due("its draught", x.look(s, 9), 1 + s);
        }
        CHECK.due("a seventeenth", x.skipper(1, 1, 1, 1), NONE);
        CHECK.due("skippers that are there", x.count(2), 16);
        CHECK.dueRange("skipper, all are there", 0, 15, 0, NONE, s -> x.look(s, 0));
    }

    private static void newSkipperIsOff() {
        BargeBourse x = new BargeBourse();
        x.skipper(600, 300, 1, 7);
        CHECK.dueLook(x, 0, 0, NONE, NONE, 0, NONE, 0, 0, 0, NONE, 300);
        CHECK.due("none is signed", x.count(7), 0);
    }

    private static void wantsOfSkippersThatAreThere() {
        BargeBourse x = new BargeBourse();
        for (int s = 0; s < 16; s++) {
            CHECK.due("skipper " + s + " is not there yet", x.wants(s, 0, 0), false);
            x.skipper(1, 1, 1, 1);
            CHECK.due("skipper " + s + " is there", x.wants(s, 0, 0), true);
        }
        CHECK.dueRange("skipper, all are there", 0, 15, s -> x.wants(s, 0, 0));
    }

    private static boolean wants(int pence, int towns) {
        BargeBourse x = new BargeBourse();
        x.skipper(1, 1, 1, 1);
        return x.wants(0, pence, towns);
    }

    private static void numbersOfWants() {
        CHECK.dueRange("pence", 0, 1000, n -> wants(n, 0));
        CHECK.dueRange("towns", 0, 255, n -> wants(0, n));
        CHECK.due("all the greatest", wants(1000, 255), true);
        CHECK.due("both too great", wants(1001, 256), false);
    }

    private static void townsOfACargo() {
        CHECK.dueRange("from", 0, 7, 0, NONE, n -> new BargeBourse().cargo(n, 3, 1, 0, 0));
        CHECK.dueRange("to", 0, 7, 0, NONE, n -> new BargeBourse().cargo(3, n, 1, 0, 0));
        for (int a = 0; a < 8; a++) {
            for (int b = 0; b < 8; b++) {
                int due = a == b ? NONE : 0;
                CHECK.due("cargo " + a + " " + b, new BargeBourse().cargo(a, b, 1, 0, 0), due);
            }
        }
        CHECK.due("two that are no towns", new BargeBourse().cargo(8, 9, 1, 0, 0), NONE);
        CHECK.due("two that are no towns", new BargeBourse().cargo(-1, -1, 1, 0, 0), NONE);
    }

    private static void numbersOfACargo() {
        CHECK.dueRange("tons", 1, 600, 0, NONE, n -> new BargeBourse().cargo(0, 7, n, 0, 0));
        CHECK.dueRange("kind", 0, 2, 0, NONE, n -> new BargeBourse().cargo(0, 7, 1, n, 0));
        CHECK.dueRange("pence", 0, 100000, 0, NONE, n -> new BargeBourse().cargo(0, 7, 1, 0, n));
        CHECK.due("all the least", new BargeBourse().cargo(0, 1, 1, 0, 0), 0);
        CHECK.due("all the greatest", new BargeBourse().cargo(7, 6, 600, 2, 100000), 0);
    }

    private static void sixtyCargoes() {
        BargeBourse x = new BargeBourse();
        for (int c = 0; c < 60; c++) {
            CHECK.due("cargo " + c + " is not there yet", x.told(c, 0), NONE);
            CHECK.due("the next cargo", x.cargo(c % 8, (c + 1) % 8, 1 + c, c % 3, c), c);
            CHECK.due("cargoes that are there", x.count(3), c + 1);
            CHECK.due("cargoes that wait", x.count(4), c + 1);
        }
        CHECK.due("a sixty-first", x.cargo(0, 1, 1, 0, 0), NONE);
        CHECK.due("cargoes that are there", x.count(3), 60);
        CHECK.due("cargoes that wait", x.count(4), 60);
        CHECK.dueRange("cargo, all are there", 0, 59, 0, NONE, c -> x.told(c, 0));
    }

    private static void newCargoWaits() {
        BargeBourse x = new BargeBourse();
        x.cargo(0, 1, 1, 0, 0);
        CHECK.dueTold(x, 0, 0, NONE, NONE, NONE, NONE);
    }

    private static void refusedUsesUpNoNumber() {
        BargeBourse x = new BargeBourse();
        dueNumbers("canal", n -> x.canal(0, 1, 1, n, 0));
        dueNumbers("skipper", n -> x.skipper(n + 1, 1, 1, 1));
        dueNumbers("cargo", n -> x.cargo(0, 1, 1, 0, n));
    }

    private static void dueNumbers(String name, IntToLongFunction make) {
        CHECK.due(name + ": refused first", make.applyAsLong(-1), NONE);
        CHECK.due(name + ": the first", make.applyAsLong(0), 0);
        CHECK.due(name + ": refused then", make.applyAsLong(100001), NONE);
        CHECK.due(name + ": the second", make.applyAsLong(1), 1);
    }
}
