/** Promises 13, 14, 15 and 21: hours, journeys, money, what is looked at and counted. */
public final class JourneyTest {
    private static final int NONE = BargeBourse.NONE;
    private static final Check CHECK = new Check("JourneyTest");

    public static void main(String[] args) {
        steps();
        wholeJourney();
        looksRefused();
        locks();
        lockOfTheFirstHours();
        lockZero();
        lockIsOneForBothWays();
        waterFalls();
        wayIsKept();
        berths();
        berthIsFreedInTheHour();
        demurrage();
        handlingByTheLawOfTheHour();
        counts();
        secondJourney();
        CHECK.end();
    }

    private static void steps() {
        BargeBourse x = new BargeBourse();
        for (int wrong : new int[] {0, -1, 201, Integer.MAX_VALUE, Integer.MIN_VALUE}) {
            CHECK.due("step(" + wrong + ")", x.step(wrong), NONE);
        }
        CHECK.due("hour", x.count(0), 0);
        CHECK.due("step(1)", x.step(1), 1);
        CHECK.due("step(200)", x.step(200), 201);
        CHECK.due("hour", x.count(0), 201);
    }

    private static void wholeJourney() {
        BargeBourse x = new BargeBourse();
        Check.law(x, "c2;u30");
        x.canal(0, 1, 2, 100, 1);
        x.canal(2, 1, 1, 100, 0);
        x.skipper(100, 20, 7, 1);
        x.sign(0, 0);
        x.cargo(0, 2, 61, 0, 1234);
        x.step(1);
        CHECK.dueLook(x, 0, 1, 0, 1, 0, NONE, 0, 0, 0, NONE, 20);
        x.step(1);
        CHECK.dueLook(x, 0, 2, 0, NONE, 0, 0, 2, 0, 0, NONE, 29);
        CHECK.dueTold(x, 0, 1, 0, 2, NONE, 0);
        x.step(1);
        CHECK.dueLook(x, 0, 2, 0, NONE, 0, 0, 1, 0, 0, NONE, 29);
        x.step(1);
        CHECK.dueLook(x, 0, 3, 0, NONE, 0, 0, 0, 0, 0, 0, 29);
        x.step(1);
        CHECK.dueLook(x, 0, 4, 1, NONE, 0, 0, 3, 0, 0, 0, 29);
        x.step(2);
        CHECK.dueLook(x, 0, 4, 1, NONE, 0, 0, 1, 0, 0, 0, 29);
        x.step(1);
        CHECK.dueLook(x, 0, 3, 1, NONE, 0, 0, 0, 0, 0, 1, 29);
        x.step(1);
        CHECK.dueLook(x, 0, 4, 2, NONE, 0, 0, 1, 0, 0, 1, 29);
        x.step(1);
        CHECK.dueLook(x, 0, 5, 2, NONE, 0, 0, 0, 0, 0, NONE, 29);
        x.step(1);
        CHECK.dueLook(x, 0, 6, 2, NONE, 0, 0, 3, 0, 0, NONE, 29);
        x.step(2);
        CHECK.dueLook(x, 0, 6, 2, NONE, 0, 0, 1, 0, 0, NONE, 29);
        CHECK.dueTold(x, 0, 1, 0, 2, NONE, 0);
        x.step(1);
        CHECK.dueLook(x, 0, 1, 2, 1, 0, NONE, 0, 0, 1234, NONE, 20);
        CHECK.dueTold(x, 0, 2, 0, 2, 14, 0);
        CHECK.dueList(x, 2, 0);
        CHECK.dueList(x, 0);
    }

    private static void looksRefused() {
        BargeBourse x = new BargeBourse();
        x.skipper(1, 1, 1, 1);
        for (int wrong : new int[] {-1, 1, 16, Integer.MAX_VALUE, Integer.MIN_VALUE}) {
            CHECK.due("look(" + wrong + ", 0)", x.look(wrong, 0), NONE);
        }
        for (int wrong : new int[] {-1, 10, Integer.MAX_VALUE, Integer.MIN_VALUE}) {
            CHECK.due("look(0, " + wrong + ")", x.look(0, wrong), NONE);
            CHECK.due("count(" + wrong + ")", x.count(wrong), NONE);
        }
        CHECK.due("count(9)", x.count(9), NONE);
    }

    /** Skippers in one hall, each with a cargo of one hour's loading that goes from 0 to 1. */
    private static BargeBourse fleet(String law, int barges, int hours, int lock) {
        BargeBourse x = new BargeBourse();
        CHECK.due("law " + law, Check.law(x, law), 0);
        x.canal(0, 1, hours, 100, lock);
        for (int s = 0; s < barges; s++) {
            x.skipper(100, 10, 10, 1);
            x.sign(s, 0);
            x.cargo(0, 1, 10, 0, 1000 * (s + 1));
        }
        return x;
    }

    private static void dueStates(BargeBourse x, long... want) {
        for (int s = 0; s < want.length; s++) {
            CHECK.due("hour " + x.count(0) + ", look(" + s + ", 0)", x.look(s, 0), want[s]);
        }
    }

    private static void locks() {
        BargeBourse x = fleet("c1", 3, 2, 2);
        x.step(1);
        dueStates(x, 3, 3, 3);
        x.step(1);
        dueStates(x, 4, 3, 3);
        x.step(1);
        dueStates(x, 4, 3, 3);
        x.step(1);
        dueStates(x, 4, 4, 3);
        CHECK.due("hours left", x.look(1, 5), 4);
        x.step(1);
        dueStates(x, 4, 4, 3);
        x.step(1);
        dueStates(x, 5, 4, 4);
    }

    private static void lockOfTheFirstHours() {
        BargeBourse x = fleet("c1", 2, 1, 12);
        x.step(2);
        dueStates(x, 4, 3);
        x.step(11);
        dueStates(x, 4, 3);
        x.step(1);
        dueStates(x, 4, 4);
    }

    private static void lockZero() {
        BargeBourse x = fleet("c1", 3, 1, 0);
        x.step(2);
        dueStates(x, 4, 4, 4);
        x.step(1);
        dueStates(x, 5, 5, 5);
    }

    private static void lockIsOneForBothWays() {
        BargeBourse x = fleet("c1", 1, 1, 1);
        x.skipper(100, 10, 10, 1);
        x.sign(1, 1);
        x.cargo(1, 0, 10, 0, 1);
        x.step(2);
        dueStates(x, 4, 3);
        x.step(1);
        dueStates(x, 4, 4);
        CHECK.due("to which", x.look(1, 1), 0);
    }

    private static void waterFalls() {
        BargeBourse x = fleet("c1", 1, 3, 0);
        x.step(1);
        x.depth(0, 10);
        x.step(5);
        dueStates(x, 3);
        CHECK.due("can no more", x.can(0, 0), 0);
        x.depth(0, 11);
        x.step(1);
        dueStates(x, 4);
        x.depth(0, 0);
        x.step(3);
        dueStates(x, 5);
    }

    private static void wayIsKept() {
        BargeBourse x = fleet("c1", 1, 5, 0);
        x.step(1);
        x.canal(0, 1, 1, 100, 0);
        CHECK.dueWay(x, 0, 0, 1, 1);
        CHECK.due("the way as it was", x.look(0, 8), 0);
        x.step(1);
        CHECK.due("the way as it was", x.look(0, 8), 0);
        CHECK.due("hours left", x.look(0, 5), 5);
    }

    private static void berths() {
        BargeBourse x = fleet("c1;u1", 4, 1, 0);
        x.town(1, 2);
        x.step(12);
        dueStates(x, 5, 5, 5, 5);
        x.step(1);
        dueStates(x, 6, 6, 5, 5);
        CHECK.due("waited", x.look(2, 6), 1);
        CHECK.due("not waited", x.look(1, 6), 0);
        x.town(1, 3);
        x.step(1);
        dueStates(x, 6, 6, 6, 5);
        CHECK.due("waited", x.look(2, 6), 1);
        CHECK.due("waited", x.look(3, 6), 2);
        x.town(1, 1);
        x.step(9);
        dueStates(x, 1, 1, 6, 5);
        x.step(1);
        dueStates(x, 1, 1, 1, 6);
        CHECK.dueList(x, 1, 0, 1, 2);
        CHECK.due("waited", x.look(3, 6), 11);
    }

    private static void berthIsFreedInTheHour() {
        BargeBourse x = new BargeBourse();
        Check.law(x, "c1;u10");
        x.canal(0, 1, 1, 100, 0);
        x.skipper(100, 10, 10, 1);
        x.skipper(100, 10, 10, 1);
        x.sign(1, 0);
        x.cargo(0, 1, 20, 0, 1);
        x.step(1);
        x.sign(0, 0);
        x.cargo(0, 1, 20, 0, 1);
        x.step(4);
        dueStates(x, 5, 6);
        x.step(2);
        dueStates(x, 5, 1);
        CHECK.due("the higher number is later in the hour", x.look(0, 6), 2);
        x.step(1);
        dueStates(x, 6, 1);
        CHECK.due("waited", x.look(0, 6), 2);
    }

    private static void demurrage() {
        BargeBourse x = fleet("c1;u5;f2;d7", 3, 1, 0);
        x.step(2);
        x.step(10);
        CHECK.due("no waiting", x.look(0, 7), 1000);
        CHECK.due("waited as long as is free", x.look(1, 7), 2000);
        CHECK.due("waited longer", x.look(2, 7), 3000 + 2 * 7);
        x = fleet("c1;u5;f2;d7", 3, 1, 0);
        x.step(10);
        CHECK.due("still unloading", x.look(2, 0), 6);
        Check.law(x, "c1;u5;f0;d9999");
        x.step(2);
        CHECK.due("by the law of the paying hour", x.look(2, 7), 3000 + 4 * 9999);
        x = fleet("c1;u5;f9;d100", 3, 1, 0);
        x.step(12);
        CHECK.due("less than is free", x.look(2, 7), 3000);
    }

    private static void handlingByTheLawOfTheHour() {
        BargeBourse x = fleet("c1;u3", 1, 1, 0);
        x.step(1);
        CHECK.due("10 tons, u3", x.look(0, 5), 3);
        Check.law(x, "c1;u9999");
        x.step(1);
        CHECK.due("as the law was", x.look(0, 5), 2);
        x.step(4);
        dueStates(x, 5);
        Check.law(x, "c1;u4");
        x.step(1);
        dueStates(x, 6);
        CHECK.due("10 tons, u4", x.look(0, 5), 3);
        Check.law(x, "c1;u1");
        x.step(3);
        dueStates(x, 1);
    }

    private static void dueCounts(BargeBourse x, long... want) {
        for (int what = 0; what < want.length; what++) {
            CHECK.due("count(" + what + ")", x.count(what), want[what]);
        }
    }

    private static void counts() {
        BargeBourse x = fleet("c1", 2, 1, 0);
        x.cargo(0, 1, 10, 0, 0);
        x.skipper(1, 1, 1, 1);
        x.feed(1, 2, 3, 4, 5);
        dueCounts(x, 0, 1, 3, 3, 3, 0, 0, 2, 20);
        x.step(1);
        dueCounts(x, 1, 1, 3, 3, 1, 2, 0, 0, 20);
        x.step(4);
        dueCounts(x, 5, 1, 3, 3, 1, 1, 1, 1, 20);
        x.step(1);
        dueCounts(x, 6, 1, 3, 3, 1, 0, 2, 2, 20);
    }

    private static void secondJourney() {
        BargeBourse x = fleet("c1;f0;d1", 2, 1, 0);
        x.cargo(1, 0, 100, 0, 50);
        x.step(6);
        dueStates(x, 2, 1);
        CHECK.dueTold(x, 2, 1, 0, 6, NONE, 0);
        CHECK.dueLook(x, 0, 2, 1, NONE, 0, 2, 1, 0, 1000, NONE, 20);
        CHECK.dueLook(x, 1, 1, 1, 1, 0, NONE, 0, 0, 2001, NONE, 10);
        x.step(6);
        CHECK.dueLook(x, 0, 1, 0, 1, 0, NONE, 0, 0, 1050, NONE, 10);
        CHECK.dueTold(x, 2, 2, 0, 6, 12, 0);
    }
}
