/** The sentences ahead of the promises: what the words in capitals mean, one method for each of them. */
public final class TermsTest {
    private static final int NONE = BargeBourse.NONE;
    private static final Check CHECK = new Check("TermsTest");

    public static void main(String[] args) {
        eachTownHasOneBerthAtFirst();
        berthsAreOfOneTown();
        depthIsToldAnewAtAnyTime();
        twoCanalsBetweenTheSameTowns();
        lockIsHeldByWhoWentIn();
        lockIsOneFromBothEnds();
        lockIsOfOneCanal();
        lockStaysHeld();
        draughtWithTheLoad();
        listInTheOrderOfSigning();
        passesOfAnotherHall();
        wantsAtFirst();
        wantsStayTillToldAnew();
        wayAsItIsWhenTaken();
        calledByNumbers();
        passedOverAndAskedAgain();
        signedInThisHourIsNotCalledInIt();
        oneThingAnHour();
        moneyStays();
        lawOfTheHour();
        hoursGoOnUnderANewLaw();
        CHECK.end();
    }

    private static BargeBourse withLaw(String law) {
        BargeBourse x = new BargeBourse();
        CHECK.due("law " + law, Check.law(x, law), 0);
        return x;
    }

    private static int signed(BargeBourse x, int town) {
        int s = x.skipper(600, 10, 20, 7);
        x.sign(s, town);
        return s;
    }

    private static void dueStates(String name, BargeBourse x, long... want) {
        for (int s = 0; s < want.length; s++) {
            CHECK.due(name + ", hour " + x.count(0) + ": state of " + s, x.look(s, 0), want[s]);
        }
    }

    private static void eachTownHasOneBerthAtFirst() {
        for (int t = 0; t < 8; t++) {
            int from = (t + 1) % 8;
            BargeBourse x = withLaw("c1;u1");
            x.canal(from, t, 1, 100, 0);
            for (int i = 0; i < 2; i++) {
                signed(x, from);
                x.cargo(from, t, 10, 0, 0);
            }
            x.step(13);
            dueStates("one berth in town " + t, x, 6, 5);
            x.town(t, 2);
            x.step(1);
            dueStates("two berths in town " + t, x, 6, 6);
        }
    }

    private static void berthsAreOfOneTown() {
        BargeBourse x = withLaw("c1;u1");
        for (int t = 1; t < 5; t++) {
            x.canal(0, t, 1, 100, 0);
            signed(x, 0);
            x.cargo(0, t, 10, 0, 0);
        }
        x.step(13);
        dueStates("each in a town of its own", x, 6, 6, 6, 6);
    }

    private static void depthIsToldAnewAtAnyTime() {
        BargeBourse x = withLaw("c1");
        x.canal(0, 1, 1, 0, 0);
        signed(x, 0);
        x.cargo(0, 1, 20, 0, 0);
        for (int cm : new int[] {10, 11, 500, 0, 11, 10}) {
            x.depth(0, cm);
            CHECK.due("a draught of 11 cm in " + cm, x.can(0, 0), cm >= 11 ? 1 : 0);
        }
        x.step(3);
        CHECK.due("it is not taken", x.told(0, 0), 0);
        x.depth(0, 11);
        x.step(1);
        CHECK.due("it is taken", x.told(0, 2), 4);
    }

    private static void twoCanalsBetweenTheSameTowns() {
        BargeBourse x = withLaw("c1");
        CHECK.due("a canal", x.canal(0, 1, 5, 100, 3), 0);
        CHECK.due("another one beside it", x.canal(1, 0, 6, 50, 0), 1);
        signed(x, 0);
        x.cargo(0, 1, 20, 0, 0);
        CHECK.dueWay(x, 0, 0, 6, 1);
        x.depth(1, 10);
        CHECK.dueWay(x, 0, 0, 8, 0);
        x.depth(0, 10);
        CHECK.dueWay(x, 0, 0, 0);
    }

    private static void lockIsHeldByWhoWentIn() {
        BargeBourse x = withLaw("c1;u600");
        x.canal(0, 1, 1, 100, 3);
        signed(x, 0);
        signed(x, 0);
        x.cargo(0, 1, 600, 0, 0);
        x.cargo(0, 1, 20, 0, 0);
        x.step(1);
        x.depth(0, 39);
        CHECK.due("too deep for it", x.look(0, 9), 40);
        x.step(1);
        dueStates("who waits holds no lock", x, 3, 4);
        x.depth(0, 40);
        x.step(2);
        dueStates("the lock is held", x, 3, 4);
        x.step(1);
        dueStates("the lock is free", x, 4, 4);
    }

    private static void lockIsOneFromBothEnds() {
        for (int from = 0; from < 2; from++) {
            BargeBourse x = withLaw("c1");
            x.canal(0, 1, 1, 100, 2);
            signed(x, from);
            signed(x, 1 - from);
            x.cargo(from, 1 - from, 20, 0, 0);
            x.cargo(1 - from, from, 20, 0, 0);
            x.step(2);
            dueStates("the first from town " + from, x, 4, 3);
            x.step(1);
            dueStates("the first from town " + from, x, 4, 3);
            x.step(1);
            dueStates("the first from town " + from, x, 4, 4);
            CHECK.due("they pass by one another", x.look(1, 1), from);
        }
    }

    private static void lockIsOfOneCanal() {
        BargeBourse x = withLaw("c1");
        x.canal(0, 1, 1, 100, 12);
        x.canal(0, 2, 1, 100, 12);
        for (int i = 0; i < 4; i++) {
            signed(x, 0);
            x.cargo(0, 1 + i % 2, 20, 0, 0);
        }
        x.step(2);
        dueStates("one in each canal", x, 4, 4, 3, 3);
        x.step(11);
        dueStates("both locks are held", x, 4, 4, 3, 3);
        x.step(1);
        dueStates("both locks are free", x, 4, 4, 4, 4);
    }

    private static void lockStaysHeld() {
        BargeBourse x = withLaw("c1");
        x.canal(0, 1, 1, 100, 3);
        for (int i = 0; i < 2; i++) {
            signed(x, 0);
            x.cargo(0, 1, 20, 0, 0);
        }
        x.step(2);
        x.depth(0, 0);
        x.depth(0, 500);
        x.step(1);
        dueStates("a new depth frees no lock", x, 4, 3);
        x.canal(0, 1, 1, 100, 3);
        x.step(1);
        dueStates("a new canal frees no lock", x, 4, 3);
        x.step(1);
        dueStates("the lock is free", x, 4, 4);
    }

    private static void draughtWithTheLoad() {
        BargeBourse x = withLaw("c1;u10");
        x.canal(0, 1, 1, 100, 0);
        x.skipper(100, 30, 7, 1);
        CHECK.due("off", x.look(0, 9), 30);
        x.sign(0, 0);
        CHECK.due("signed", x.look(0, 9), 30);
        x.cargo(0, 1, 22, 0, 0);
        for (int hour = 1; hour <= 8; hour++) {
            x.step(1);
            CHECK.due("hour " + hour + ", with its cargo", x.look(0, 9), 34);
        }
        x.step(1);
        dueStates("unloaded", x, 1);
        CHECK.due("unloaded", x.look(0, 9), 30);
    }

    private static void listInTheOrderOfSigning() {
        BargeBourse x = withLaw("c1");
        x.canal(0, 1, 1, 100, 0);
        for (int s = 0; s < 4; s++) {
            x.skipper(600, 10, 20, 7);
        }
        x.sign(2, 0);
        x.cargo(0, 1, 20, 0, 0);
        x.step(1);
        x.sign(3, 1);
        x.sign(0, 1);
        x.step(4);
        CHECK.dueList(x, 1, 3, 0, 2);
        x.sign(1, 1);
        CHECK.dueList(x, 1, 3, 0, 2, 1);
        x.leave(3);
        CHECK.due("it signs anew", x.sign(3, 1), 4);
        CHECK.dueList(x, 1, 0, 2, 1, 3);
    }

    private static void passesOfAnotherHall() {
        BargeBourse x = withLaw("c1;p9");
        x.canal(0, 1, 1, 100, 0);
        signed(x, 0);
        x.wants(0, 1, 0);
        x.cargo(0, 1, 20, 0, 0);
        x.cargo(0, 1, 20, 0, 0);
        x.step(2);
        CHECK.due("two cargoes in two calls", x.look(0, 3), 4);
        x.leave(0);
        x.step(1);
        CHECK.due("they stay when off", x.look(0, 3), 4);
        x.sign(0, 1);
        CHECK.due("0 when signing in another hall", x.look(0, 3), 0);
        x.step(1);
        CHECK.due("nothing is called there", x.look(0, 3), 0);
    }

    private static void wantsAtFirst() {
        BargeBourse x = withLaw("c1");
        for (int t = 1; t < 8; t++) {
            x.canal(0, t, 1, 100, 0);
        }
        for (int to = 0; to < 8; to++) {
            int from = to == 0 ? 1 : 0;
            int s = signed(x, from);
            int c = x.cargo(from, to, 600, 0, 0);
            x.step(1);
            CHECK.due("0 pence, to any town", x.told(c, 1), s);
        }
    }

    private static void wantsStayTillToldAnew() {
        BargeBourse x = withLaw("c1;p9;u600");
        x.canal(0, 1, 1, 100, 0);
        x.canal(0, 2, 1, 100, 0);
        signed(x, 0);
        x.wants(0, 5, 4);
        x.cargo(0, 1, 20, 0, 100);
        x.cargo(1, 0, 20, 0, 99);
        x.cargo(1, 2, 20, 0, 100000);
        x.step(5);
        CHECK.due("it has brought one", x.told(0, 0), 2);
        x.step(1);
        CHECK.due("it wants neither after its journey", x.look(0, 3), 2);
        x.leave(0);
        x.sign(0, 1);
        x.step(1);
        CHECK.due("nor when it has signed anew", x.look(0, 3), 2);
        x.wants(0, 5, 0);
        x.step(1);
        CHECK.dueTold(x, 1, 0, NONE, NONE, NONE, NONE);
        CHECK.dueTold(x, 2, 1, 0, 8, NONE, 0);
    }

    private static void wayAsItIsWhenTaken() {
        BargeBourse x = withLaw("c1");
        x.canal(0, 1, 1, 100, 0);
        x.canal(1, 2, 1, 100, 0);
        x.canal(0, 2, 9, 100, 0);
        signed(x, 0);
        x.cargo(0, 2, 20, 0, 0);
        x.step(1);
        x.depth(1, 0);
        CHECK.dueWay(x, 0, 0, 9, 2);
        CHECK.due("it keeps to its way", x.look(0, 8), 0);
        x.step(6);
        CHECK.dueLook(x, 0, 3, 1, NONE, 0, 0, 0, 0, 0, 1, 11);
        x.depth(1, 11);
        x.step(1);
        CHECK.dueLook(x, 0, 4, 2, NONE, 0, 0, 1, 0, 0, 1, 11);
    }

    private static void calledByNumbers() {
        BargeBourse x = withLaw("c1");
        x.canal(0, 1, 1, 100, 0);
        int[] pence = {5, 1000, 7, 400};
        for (int c = 0; c < 4; c++) {
            x.cargo(0, 1, 20, 0, pence[c]);
        }
        for (int s = 0; s < 3; s++) {
            signed(x, 0);
        }
        x.step(1);
        for (int c = 0; c < 4; c++) {
            CHECK.due("who took cargo " + c, x.told(c, 1), c < 3 ? c : NONE);
        }
        CHECK.dueCalled(x, 0, 1, 4, 3, 1012, 1407);
    }

    private static void passedOverAndAskedAgain() {
        BargeBourse x = withLaw("c1;p9");
        x.canal(0, 1, 1, 100, 0);
        x.skipper(10, 10, 20, 7);
        x.sign(0, 0);
        signed(x, 0);
        x.wants(1, 1, 0);
        x.cargo(0, 1, 20, 0, 0);
        x.cargo(0, 1, 10, 0, 0);
        x.cargo(0, 1, 10, 0, 10);
        x.step(1);
        CHECK.due("0 was passed over, and asked for the next", x.told(1, 1), 0);
        CHECK.due("1 passed, and was asked again", x.told(2, 1), 1);
        CHECK.due("passes of 0", x.look(0, 3), 0);
        CHECK.due("passes of 1", x.look(1, 3), 1);
        CHECK.due("nobody is asked behind who takes it", x.told(1, 4), 0);
    }

    private static void signedInThisHourIsNotCalledInIt() {
        BargeBourse x = withLaw("c5;u600");
        x.canal(0, 1, 7, 100, 0);
        signed(x, 0);
        x.cargo(0, 1, 20, 0, 0);
        x.cargo(1, 0, 20, 0, 0);
        x.step(14);
        dueStates("it unloads", x, 6);
        x.step(1);
        dueStates("it has signed", x, 1);
        CHECK.dueCalled(x, 1, 15, 1, 0, 0, 0);
        x.step(4);
        dueStates("it waits for the call", x, 1);
        x.step(1);
        CHECK.dueTold(x, 1, 1, 0, 20, NONE, 0);
    }

    /** Loading, waiting, sailing, waiting, sailing, waiting, unloading: an hour each. */
    private static void oneThingAnHour() {
        BargeBourse x = withLaw("c1;u600");
        x.canal(0, 1, 1, 100, 0);
        x.canal(1, 2, 1, 100, 0);
        signed(x, 0);
        x.cargo(0, 2, 20, 0, 0);
        for (int state : new int[] {3, 4, 3, 4, 5, 6, 1}) {
            x.step(1);
            dueStates("one thing an hour", x, state);
        }
    }

    private static void moneyStays() {
        BargeBourse x = withLaw("c1;u600");
        x.canal(0, 1, 1, 100, 0);
        signed(x, 0);
        x.cargo(0, 1, 20, 0, 100000);
        x.step(5);
        CHECK.due("paid", x.look(0, 7), 100000);
        x.leave(0);
        CHECK.due("off", x.look(0, 7), 100000);
        x.sign(0, 0);
        CHECK.due("signed", x.look(0, 7), 100000);
        x.cargo(0, 1, 20, 0, 7);
        x.step(4);
        CHECK.due("on its second journey", x.look(0, 7), 100000);
        x.step(1);
        CHECK.due("paid again", x.look(0, 7), 100007);
    }

    private static void lawOfTheHour() {
        BargeBourse x = withLaw("c1;p0;u20");
        x.canal(0, 1, 1, 100, 0);
        signed(x, 0);
        signed(x, 0);
        x.wants(0, 1, 0);
        x.cargo(0, 1, 40, 0, 0);
        x.step(1);
        CHECK.dueList(x, 0, 0);
        CHECK.due("two hours by the law of its taking", x.look(1, 5), 1);
        Check.law(x, "c3;p9;u1");
        x.cargo(0, 1, 40, 0, 0);
        x.step(1);
        dueStates("its loading goes on as it was", x, 1, 3);
        CHECK.dueCalled(x, 0, 1);
        x.step(1);
        CHECK.dueCalled(x, 0, 3);
        CHECK.due("it may pass nine times now", x.look(0, 3), 1);
    }

    private static void hoursGoOnUnderANewLaw() {
        BargeBourse x = new BargeBourse();
        CHECK.due("hours are numbered from 1", x.step(1), 1);
        x.step(199);
        Check.law(x, "c7");
        CHECK.due("the hour stays", x.count(0), 200);
        CHECK.due("the next hour", x.step(3), 203);
        CHECK.due("a multiple of 7", x.called(0, 0), 203);
        Check.law(x, "c0");
        CHECK.due("the hour stays with a fault", x.step(1), 204);
    }
}
