/** The edges of promises 13, 14, 15 and 21, and of what happens in an hour. */
public final class HourEdgesTest {
    private static final int NONE = BargeBourse.NONE;
    private static final int MAX = Integer.MAX_VALUE;
    private static final int MIN = Integer.MIN_VALUE;
    private static final Check CHECK = new Check("HourEdgesTest");

    public static void main(String[] args) {
        stepOfHours();
        stepInOneOrInMany();
        hoursOfFiveHundredCalls();
        callsAtTheMultiplesOfC();
        callsByTheHoursNumber();
        loadingRoundedUp();
        unloadingRoundedUp();
        draughtRoundedUp();
        depthNotBelowTheDraught();
        depthToldWhileItSails();
        sailingTheLeastAndTheMost();
        lockOfEachLength();
        lockIsFreeAtFirst();
        berthsOneAtFirst();
        berthsOneToFour();
        berthsToldAnew();
        demurrageAboveTheFreeHours();
        demurrageAtTheEndsOfTheLaw();
        lookOfSkippersAndWhat();
        lookInEachState();
        toldOfCargoesAndWhat();
        toldInEachState();
        countOfWhat();
        countInFullWork();
        CHECK.end();
    }

    private static BargeBourse fleet(String law, int barges, int hours, int lock) {
        return fleet(law, barges, hours, lock, 10);
    }

    /** Skippers in one hall, each with a cargo from 0 to 1; their draught with it is at most 40 cm. */
    private static BargeBourse fleet(String law, int barges, int hours, int lock, int tons) {
        BargeBourse x = new BargeBourse();
        CHECK.due("law " + law, Check.law(x, law), 0);
        x.canal(0, 1, hours, 100, lock);
        for (int s = 0; s < barges; s++) {
            x.skipper(600, 10, 20, 1);
            x.sign(s, 0);
            x.cargo(0, 1, tons, 0, 1000);
        }
        return x;
    }

    private static void dueStates(String name, BargeBourse x, long... want) {
        for (int s = 0; s < want.length; s++) {
            CHECK.due(name + ", hour " + x.count(0) + ": state of " + s, x.look(s, 0), want[s]);
        }
    }

    private static void pass(BargeBourse x, int hours) {
        for (int left = hours; left > 0; left -= 200) {
            x.step(Math.min(left, 200));
        }
    }

    private static void stepOfHours() {
        for (int n : new int[] {1, 2, 199, 200}) {
            CHECK.due("step(" + n + ")", new BargeBourse().step(n), n);
        }
        BargeBourse x = fleet("c1", 1, 1, 0);
        for (int n : new int[] {0, -1, 201, MIN, MAX}) {
            CHECK.due("step(" + n + ")", x.step(n), NONE);
            CHECK.due("no hour went by", x.count(0), 0);
            CHECK.due("no call was held", x.called(0, 0), NONE);
        }
        CHECK.due("the next hour", x.step(1), 1);
        CHECK.due("200 hours more", x.step(200), 201);
    }

    private static void stepInOneOrInMany() {
        BargeBourse x = fleet("c3;u1", 3, 5, 2);
        BargeBourse y = fleet("c3;u1", 3, 5, 2);
        x.step(44);
        for (int i = 0; i < 44; i++) {
            y.step(1);
        }
        for (int s = 0; s < 3; s++) {
            for (int what = 0; what < 10; what++) {
                CHECK.due("look(" + s + ", " + what + ")", x.look(s, what), y.look(s, what));
            }
        }
    }

    private static void hoursOfFiveHundredCalls() {
        BargeBourse x = new BargeBourse();
        for (int i = 1; i <= 500; i++) {
            CHECK.due("step(200)", x.step(200), 200 * i);
        }
        CHECK.due("hours that have gone by", x.count(0), 100000);
        CHECK.due("the latest call", x.called(7, 0), 99984);
    }

    private static void callsAtTheMultiplesOfC() {
        for (int c : new int[] {1, 2, 24, 200, 998, 999}) {
            BargeBourse x = new BargeBourse();
            Check.law(x, "c" + c);
            pass(x, c - 1);
            CHECK.due("c" + c + ": before the first call", x.called(0, 0), NONE);
            x.step(1);
            CHECK.due("c" + c + ": the first call", x.called(0, 0), c);
            pass(x, c - 1);
            CHECK.due("c" + c + ": before the second call", x.called(7, 0), c == 1 ? 1 : c);
            x.step(1);
            CHECK.due("c" + c + ": the second call", x.called(7, 0), 2 * c);
        }
    }

    private static void callsByTheHoursNumber() {
        BargeBourse x = new BargeBourse();
        x.step(10);
        Check.law(x, "c7");
        x.step(3);
        CHECK.due("hour 13", x.called(0, 0), NONE);
        x.step(1);
        CHECK.due("hour 14", x.called(0, 0), 14);
        Check.law(x, "c5");
        x.step(1);
        CHECK.due("hour 15", x.called(0, 0), 15);
    }

    /** Hours of loading, told by the hour in which the barge waits for its canal. */
    private static void dueLoading(int u, int tons, int hours) {
        BargeBourse x = fleet("c1;u" + u, 1, 1, 0, tons);
        String name = "u" + u + ", " + tons + " tons";
        if (hours > 1) {
            x.step(1);
            CHECK.due(name + ": hours left", x.look(0, 5), hours - 1);
            pass(x, hours - 2);
            dueStates(name, x, 2);
        }
        x.step(1);
        dueStates(name, x, 3);
        CHECK.due(name + ": hours left", x.look(0, 5), 0);
    }

    private static void loadingRoundedUp() {
        dueLoading(50, 1, 1);
        dueLoading(50, 49, 1);
        dueLoading(50, 50, 1);
        dueLoading(50, 51, 2);
        dueLoading(50, 100, 2);
        dueLoading(50, 101, 3);
        dueLoading(1, 1, 1);
        dueLoading(1, 2, 2);
        dueLoading(1, 600, 600);
        dueLoading(599, 600, 2);
        dueLoading(600, 600, 1);
        dueLoading(9999, 600, 1);
    }

    private static void unloadingRoundedUp() {
        int[][] cases = {{50, 50, 1}, {50, 51, 2}, {1, 600, 600}, {9999, 600, 1}, {9999, 1, 1}, {599, 600, 2}};
        for (int[] c : cases) {
            BargeBourse x = fleet("c1;u9999", 1, 1, 0, c[1]);
            x.step(3);
            dueStates("arrived", x, 5);
            Check.law(x, "c1;u" + c[0]);
            x.step(1);
            dueStates("in its berth", x, 6);
            CHECK.due("u" + c[0] + ", " + c[1] + " tons: hours left", x.look(0, 5), c[2]);
            pass(x, c[2] - 1);
            dueStates("the last hour is left", x, 6);
            CHECK.due("nothing is paid yet", x.look(0, 7), 0);
            x.step(1);
            dueStates("unloaded", x, 1);
            CHECK.due("paid", x.look(0, 7), 1000);
        }
    }

    private static void draughtRoundedUp() {
        int[][] cases = {{1, 20, 2}, {19, 20, 2}, {20, 20, 2}, {21, 20, 3}, {600, 20, 31}, {1, 1, 2}, {600, 1, 601},
            {7, 7, 2}, {8, 7, 3}};
        for (int[] c : cases) {
            BargeBourse x = new BargeBourse();
            Check.law(x, "c1;u1");
            x.canal(0, 1, 1, Math.min(500, c[2]), 0);
            x.skipper(600, 1, c[1], 1);
            x.sign(0, 0);
            x.cargo(0, 1, c[0], 0, 0);
            x.step(1);
            String name = c[0] + " tons, " + c[1] + " a centimetre";
            CHECK.due(name + ": taken", x.told(0, 0), c[2] <= 500 ? 1 : 0);
            CHECK.due(name + ": draught", x.look(0, 9), c[2] <= 500 ? c[2] : 1);
            x.depth(0, Math.min(500, c[2] - 1));
            CHECK.due(name + ": a centimetre less water", x.can(0, 0), 0);
        }
    }

    private static void depthNotBelowTheDraught() {
        BargeBourse x = fleet("c1", 1, 1, 0);
        x.step(1);
        CHECK.due("draught", x.look(0, 9), 11);
        for (int cm : new int[] {0, 10}) {
            x.depth(0, cm);
            x.step(1);
            dueStates("depth " + cm, x, 3);
        }
        x.depth(0, 11);
        x.step(1);
        dueStates("depth 11", x, 4);
    }

    private static void depthToldWhileItSails() {
        BargeBourse x = fleet("c1", 1, 3, 0);
        x.step(2);
        dueStates("it sails", x, 4);
        x.depth(0, 0);
        x.step(2);
        dueStates("it sails on", x, 4);
        x.step(1);
        dueStates("it arrives", x, 5);
    }

    private static void sailingTheLeastAndTheMost() {
        int[][] cases = {{1, 0}, {1, 12}, {48, 0}, {48, 12}};
        for (int[] c : cases) {
            BargeBourse x = fleet("c1", 1, c[0], c[1]);
            String name = c[0] + " hours, lock " + c[1];
            x.step(2);
            dueStates(name, x, 4);
            CHECK.due(name + ": hours left", x.look(0, 5), c[0] + c[1]);
            pass(x, c[0] + c[1] - 1);
            dueStates(name, x, 4);
            CHECK.due(name + ": an hour is left", x.look(0, 5), 1);
            x.step(1);
            dueStates(name, x, 5);
            CHECK.due(name + ": no hour is left", x.look(0, 5), 0);
        }
    }

    private static void lockOfEachLength() {
        for (int lock = 0; lock <= 12; lock++) {
            BargeBourse x = fleet("c1", 3, 48, lock);
            String name = "lock " + lock;
            x.step(2);
            dueStates(name, x, 4, lock == 0 ? 4 : 3, lock == 0 ? 4 : 3);
            for (int next = 1; next <= 2 && lock > 0; next++) {
                pass(x, lock - 1);
                dueStates(name, x, 4, next == 1 ? 3 : 4, 3);
                x.step(1);
                dueStates(name, x, 4, 4, next == 1 ? 3 : 4);
            }
        }
    }

    private static void lockIsFreeAtFirst() {
        BargeBourse x = fleet("c1", 1, 1, 12);
        x.step(1);
        dueStates("hour 1", x, 3);
        x.step(1);
        dueStates("hour 2", x, 4);
    }

    private static void berthsOneAtFirst() {
        for (int t = 1; t < 8; t++) {
            BargeBourse x = new BargeBourse();
            Check.law(x, "c1;u1");
            x.canal(0, t, 1, 100, 0);
            for (int s = 0; s < 2; s++) {
                x.skipper(10, 10, 10, 1);
                x.sign(s, 0);
                x.cargo(0, t, 10, 0, 0);
            }
            x.step(13);
            dueStates("town " + t, x, 6, 5);
        }
    }

    private static void berthsOneToFour() {
        for (int berths = 1; berths <= 4; berths++) {
            BargeBourse x = fleet("c1;u1", 5, 1, 0);
            CHECK.due("berths", x.town(1, berths), true);
            CHECK.due("no such berths", x.town(1, 5), false);
            CHECK.due("no such berths", x.town(1, 0), false);
            x.town(0, 5 - berths);
            x.step(12);
            dueStates("arrived", x, 5, 5, 5, 5, 5);
            x.step(1);
            for (int s = 0; s < 5; s++) {
                CHECK.due(berths + " berths: state of " + s, x.look(s, 0), s < berths ? 6 : 5);
                CHECK.due(berths + " berths: waited", x.look(s, 6), s < berths ? 0 : 1);
            }
        }
    }

    private static void berthsToldAnew() {
        BargeBourse x = fleet("c1;u1", 5, 1, 0);
        x.town(1, 4);
        x.step(13);
        dueStates("four berths", x, 6, 6, 6, 6, 5);
        x.town(1, 1);
        x.step(9);
        dueStates("who unloads goes on", x, 6, 6, 6, 6, 5);
        CHECK.due("waited", x.look(4, 6), 10);
        x.step(1);
        dueStates("all are unloaded", x, 1, 1, 1, 1, 6);
        CHECK.due("waited", x.look(4, 6), 10);
    }

    /** The second of two barges waits so many hours as the first needs for unloading. */
    private static void dueDemurrage(int f, int d, int waits, int want) {
        BargeBourse x = fleet("c1;u10;f" + f + ";d" + d, 2, 1, 0, 10 * waits);
        pass(x, 2 * waits + 3);
        String name = "f" + f + " d" + d + ", " + waits + " hours: ";
        dueStates(name, x, 1, 6);
        CHECK.due(name + "waited", x.look(1, 6), waits);
        pass(x, waits);
        dueStates(name, x, 1, 1);
        CHECK.due(name + "not waited", x.look(0, 7), 1000);
        CHECK.due(name + "money", x.look(1, 7), 1000 + want);
        CHECK.due(name + "no journey, no waiting", x.look(1, 6), 0);
    }

    private static void demurrageAboveTheFreeHours() {
        dueDemurrage(0, 7, 1, 7);
        dueDemurrage(1, 7, 1, 0);
        dueDemurrage(6, 7, 5, 0);
        dueDemurrage(6, 7, 6, 0);
        dueDemurrage(6, 7, 7, 7);
        dueDemurrage(6, 7, 8, 14);
    }

    private static void demurrageAtTheEndsOfTheLaw() {
        dueDemurrage(0, 0, 60, 0);
        dueDemurrage(0, 9999, 60, 60 * 9999);
        dueDemurrage(999, 9999, 60, 0);
        BargeBourse x = fleet("c1;u1;f999;d9999", 3, 1, 0, 500);
        pass(x, 502);
        dueStates("arrived", x, 5, 5, 5);
        pass(x, 1001);
        dueStates("the third unloads", x, 1, 1, 6);
        CHECK.due("waited", x.look(2, 6), 1000);
        pass(x, 500);
        CHECK.due("1000 hours, 999 are free", x.look(2, 7), 1000 + 9999);
        BargeBourse y = fleet("c1;u1;f999;d9999", 1, 1, 0, 500);
        y.skipper(600, 10, 20, 1);
        y.skipper(600, 10, 20, 1);
        y.sign(1, 0);
        y.sign(2, 0);
        y.cargo(0, 1, 499, 0, 1000);
        y.cargo(0, 1, 500, 0, 1000);
        pass(y, 1502);
        dueStates("the first unloads at last", y, 6, 1, 1);
        CHECK.due("waited", y.look(0, 6), 999);
        pass(y, 500);
        CHECK.due("999 hours, 999 are free", y.look(0, 7), 1000);
    }

    private static void lookOfSkippersAndWhat() {
        BargeBourse none = new BargeBourse();
        for (int s : new int[] {0, -1, 15, 16, MIN, MAX}) {
            CHECK.due("nobody is there: look(" + s + ", 0)", none.look(s, 0), NONE);
        }
        BargeBourse x = Busy.make();
        for (int s : new int[] {-1, Busy.SKIPPERS, 15, 16, MIN, MAX}) {
            for (int what = 0; what < 10; what++) {
                CHECK.due("look(" + s + ", " + what + ")", x.look(s, what), NONE);
            }
        }
        for (int s = 0; s < Busy.SKIPPERS; s++) {
            for (int what : new int[] {-1, 10, MIN, MAX}) {
                CHECK.due("look(" + s + ", " + what + ")", x.look(s, what), NONE);
            }
        }
    }

    private static void lookInEachState() {
        BargeBourse x = Busy.make();
        CHECK.due("hour", x.count(0), 9);
        CHECK.dueLook(x, 0, 0, NONE, NONE, 1, NONE, 0, 0, 0, NONE, 10);
        CHECK.dueLook(x, 1, 1, 3, 1, 2, NONE, 0, 0, 0, NONE, 10);
        CHECK.dueLook(x, 2, 2, 0, NONE, 0, 5, 59, 0, 0, NONE, 40);
        CHECK.dueLook(x, 3, 3, 0, NONE, 0, 3, 0, 0, 0, 2, 11);
        CHECK.dueLook(x, 4, 4, 2, NONE, 0, 2, 57, 0, 0, 1, 11);
        CHECK.dueLook(x, 5, 5, 1, NONE, 0, 1, 0, 5, 0, NONE, 40);
        CHECK.dueLook(x, 6, 6, 1, NONE, 0, 0, 55, 0, 0, NONE, 40);
    }

    private static void toldOfCargoesAndWhat() {
        BargeBourse none = new BargeBourse();
        for (int c : new int[] {0, -1, 59, 60, MIN, MAX}) {
            CHECK.due("no cargo is there: told(" + c + ", 0)", none.told(c, 0), NONE);
        }
        BargeBourse x = Busy.make();
        for (int c : new int[] {-1, Busy.CARGOES, 59, 60, MIN, MAX}) {
            for (int what = 0; what < 5; what++) {
                CHECK.due("told(" + c + ", " + what + ")", x.told(c, what), NONE);
            }
        }
        for (int what : new int[] {-1, 5, MIN, MAX}) {
            CHECK.due("told(0, " + what + ")", x.told(0, what), NONE);
        }
    }

    private static void toldInEachState() {
        BargeBourse x = Busy.make();
        CHECK.dueTold(x, 4, 0, NONE, NONE, NONE, NONE);
        CHECK.dueTold(x, 0, 1, 6, 1, NONE, 0);
        x.step(54);
        CHECK.dueTold(x, 0, 1, 6, 1, NONE, 0);
        x.step(1);
        CHECK.dueTold(x, 0, 2, 6, 1, 64, 0);
        CHECK.due("its skipper signs", x.look(6, 0), 1);
    }

    private static void countOfWhat() {
        BargeBourse x = new BargeBourse();
        CHECK.dueRange("new: count", 0, 8, 0, NONE, x::count);
        BargeBourse y = Busy.make();
        for (int what : new int[] {-1, 9, MIN, MAX}) {
            CHECK.due("count(" + what + ")", y.count(what), NONE);
        }
    }

    private static void countInFullWork() {
        BargeBourse x = Busy.make();
        long[] want = {9, Busy.CANALS, Busy.SKIPPERS, Busy.CARGOES, 1, 5, 0, 1, Busy.TAPE};
        for (int what = 0; what < want.length; what++) {
            CHECK.due("count(" + what + ")", x.count(what), want[what]);
        }
    }
}
