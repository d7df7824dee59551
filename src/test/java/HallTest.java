/** Promises 10, 11, 15, 18, 19: signing and leaving, calls, passes, what is told of them. */
public final class HallTest {
    private static final int NONE = BargeBourse.NONE;
    private static final Check CHECK = new Check("HallTest");

    public static void main(String[] args) {
        signing();
        leaving();
        callHours();
        whoIsAsked();
        passes();
        passesStay();
        severalGoToTheEnd();
        nobodyIsAskedTwice();
        movedAreAskedLast();
        onlyWhoPassedMoves();
        callsOfAllTowns();
        CHECK.end();
    }

    private static BargeBourse withSkippers(String law, int skippers) {
        BargeBourse x = new BargeBourse();
        CHECK.due("law " + law, Check.law(x, law), 0);
        x.canal(0, 1, 1, 100, 0);
        x.canal(0, 2, 1, 100, 0);
        for (int s = 0; s < skippers; s++) {
            x.skipper(100, 10, 10, 7);
        }
        return x;
    }

    private static void signing() {
        BargeBourse x = withSkippers("c1", 3);
        for (int wrong : new int[] {-1, 3, 16, Integer.MAX_VALUE, Integer.MIN_VALUE}) {
            CHECK.due("sign(" + wrong + ", 0)", x.sign(wrong, 0), NONE);
            CHECK.due("leave(" + wrong + ")", x.leave(wrong), false);
        }
        for (int wrong : new int[] {-1, 8, Integer.MAX_VALUE, Integer.MIN_VALUE}) {
            CHECK.due("sign(0, " + wrong + ")", x.sign(0, wrong), NONE);
            CHECK.due("list(" + wrong + ", 0)", x.list(wrong, 0), NONE);
        }
        CHECK.due("sign(2, 7)", x.sign(2, 7), 1);
        CHECK.due("sign(0, 7)", x.sign(0, 7), 2);
        CHECK.due("sign(1, 0)", x.sign(1, 0), 1);
        CHECK.due("signed already", x.sign(0, 1), NONE);
        CHECK.dueList(x, 7, 2, 0);
        CHECK.dueList(x, 0, 1);
        CHECK.due("list(7, -1)", x.list(7, -1), NONE);
        CHECK.due("list(7, min)", x.list(7, Integer.MIN_VALUE), NONE);
        CHECK.due("list(7, max)", x.list(7, Integer.MAX_VALUE), NONE);
        CHECK.dueLook(x, 0, 1, 7, 2, 0, NONE, 0, 0, 0, NONE, 10);
        CHECK.due("count(7)", x.count(7), 3);
    }

    private static void leaving() {
        BargeBourse x = withSkippers("c1", 3);
        CHECK.due("off already", x.leave(0), false);
        x.sign(0, 0);
        x.sign(1, 0);
        x.sign(2, 0);
        CHECK.due("leave(1)", x.leave(1), true);
        CHECK.dueList(x, 0, 0, 2);
        CHECK.dueLook(x, 1, 0, NONE, NONE, 0, NONE, 0, 0, 0, NONE, 10);
        CHECK.due("look(2, 2)", x.look(2, 2), 2);
        CHECK.due("again", x.leave(1), false);
        CHECK.due("sign again", x.sign(1, 0), 3);
        x.cargo(0, 1, 100, 0, 1);
        x.step(1);
        CHECK.due("on a journey", x.look(0, 0), 2);
        CHECK.due("leave on a journey", x.leave(0), false);
        CHECK.due("sign on a journey", x.sign(0, 0), NONE);
        CHECK.dueList(x, 0, 2, 1);
    }

    private static void callHours() {
        BargeBourse x = withSkippers("c3", 1);
        x.cargo(0, 1, 10, 0, 5);
        x.sign(0, 0);
        x.step(2);
        CHECK.dueCalled(x, 0, NONE, NONE, NONE, NONE, NONE);
        x.step(1);
        CHECK.dueCalled(x, 0, 3, 1, 1, 5, 5, NONE);
        CHECK.due("called(0, -1)", x.called(0, -1), NONE);
        CHECK.due("called(-1, 0)", x.called(-1, 0), NONE);
        CHECK.due("called(8, 0)", x.called(8, 0), NONE);
        CHECK.due("called(max, 0)", x.called(Integer.MAX_VALUE, 0), NONE);
        CHECK.dueTold(x, 0, 1, 0, 3, NONE, 0);
        x.step(2);
        CHECK.dueCalled(x, 0, 3, 1, 1, 5, 5);
        x.step(1);
        CHECK.dueCalled(x, 0, 6, 0, 0, 0, 0);
        Check.law(x, "c5");
        x.step(3);
        CHECK.dueCalled(x, 0, 6);
        x.step(1);
        CHECK.dueCalled(x, 0, 10);
        BargeBourse first = new BargeBourse();
        first.step(23);
        CHECK.dueCalled(first, 7, NONE);
        first.step(1);
        CHECK.dueCalled(first, 7, 24);
    }

    private static void whoIsAsked() {
        BargeBourse x = withSkippers("c1;p9", 4);
        x.skipper(50, 10, 10, 7);
        x.wants(0, 7, 0);
        x.wants(1, 0, 2);
        x.wants(2, 6, 255 - 2);
        x.sign(4, 0);
        x.sign(0, 0);
        x.sign(1, 0);
        x.sign(2, 0);
        x.sign(3, 0);
        x.cargo(0, 1, 60, 0, 360);
        x.cargo(0, 2, 60, 0, 419);
        x.cargo(0, 2, 60, 0, 420);
        x.cargo(0, 2, 60, 0, 0);
        x.cargo(1, 2, 60, 0, 0);
        CHECK.due("best", x.best(0), 360 + 419 + 420);
        x.step(1);
        CHECK.dueTold(x, 0, 1, 2, 1, NONE, 2);
        CHECK.dueTold(x, 1, 1, 1, 1, NONE, 1);
        CHECK.dueTold(x, 2, 1, 0, 1, NONE, 0);
        CHECK.dueTold(x, 3, 1, 3, 1, NONE, 0);
        CHECK.dueTold(x, 4, 0, NONE, NONE, NONE, NONE);
        CHECK.dueCalled(x, 0, 1, 4, 4, 1199, 1199);
        CHECK.dueCalled(x, 1, 1, 1, 0, 0, 0);
        CHECK.dueList(x, 0, 4);
        CHECK.due("passes of 0", x.look(0, 3), 2);
        CHECK.due("passes of 1", x.look(1, 3), 1);
        CHECK.due("passes of 2", x.look(2, 3), 0);
        CHECK.due("passes of 4, who can't", x.look(4, 3), 0);
    }

    private static void passes() {
        BargeBourse x = withSkippers("c1;p2", 2);
        x.wants(0, 1, 0);
        x.wants(1, 0, 255);
        x.sign(0, 0);
        x.sign(1, 0);
        x.cargo(0, 1, 10, 0, 0);
        x.step(2);
        CHECK.due("passes 2", x.look(0, 3), 2);
        CHECK.dueList(x, 0, 0, 1);
        x.leave(1);
        x.sign(1, 0);
        CHECK.due("passes 0 when signing", x.look(1, 3), 0);
        x.step(1);
        CHECK.due("passes 0 at the end", x.look(0, 3), 0);
        CHECK.due("passes 1", x.look(1, 3), 1);
        CHECK.dueList(x, 0, 1, 0);
        CHECK.dueTold(x, 0, 0, NONE, NONE, NONE, NONE);
    }

    private static void passesStay() {
        BargeBourse x = withSkippers("c1;p9;u600", 1);
        x.wants(0, 1, 0);
        x.sign(0, 0);
        x.cargo(0, 1, 10, 0, 0);
        x.step(3);
        x.leave(0);
        CHECK.due("passes stay when off", x.look(0, 3), 3);
        x.sign(0, 0);
        CHECK.due("passes 0 when signing", x.look(0, 3), 0);
        x.step(1);
        x.cargo(0, 1, 10, 0, 10);
        x.step(1);
        CHECK.due("passes stay when taking", x.look(0, 3), 2);
        CHECK.dueTold(x, 1, 1, 0, 5, NONE, 0);
        x.step(3);
        CHECK.due("passes stay on the journey", x.look(0, 3), 2);
        x.step(1);
        CHECK.due("signs at the end", x.look(0, 0), 1);
        CHECK.due("passes 0 when it signs at the end", x.look(0, 3), 0);
    }

    private static void severalGoToTheEnd() {
        BargeBourse x = withSkippers("c1;p0", 5);
        for (int s : new int[] {4, 2, 0, 3, 1}) {
            x.sign(s, 0);
        }
        x.wants(4, 1, 0);
        x.wants(0, 1, 0);
        x.wants(3, 1, 0);
        x.wants(2, 0, 2);
        x.cargo(0, 1, 10, 0, 0);
        x.step(1);
        CHECK.dueTold(x, 0, 1, 1, 1, NONE, 4);
        CHECK.dueList(x, 0, 4, 2, 0, 3);
        x.cargo(0, 2, 10, 0, 0);
        x.step(1);
        CHECK.dueTold(x, 1, 1, 2, 2, NONE, 1);
        CHECK.dueList(x, 0, 0, 3, 4);
    }

    private static void nobodyIsAskedTwice() {
        BargeBourse x = withSkippers("c1;p0", 3);
        for (int s = 0; s < 3; s++) {
            x.wants(s, 0, 255);
            x.sign(s, 0);
        }
        x.cargo(0, 1, 10, 0, 0);
        x.step(1);
        CHECK.dueList(x, 0, 0, 1, 2);
        for (int s = 0; s < 3; s++) {
            CHECK.due("passes", x.look(s, 3), 0);
        }
    }

    private static void movedAreAskedLast() {
        BargeBourse x = withSkippers("c1;p0", 2);
        x.wants(0, 5, 0);
        x.sign(0, 0);
        x.sign(1, 0);
        x.cargo(0, 1, 10, 0, 49);
        x.cargo(0, 1, 10, 0, 50);
        x.wants(1, 5, 0);
        x.step(1);
        CHECK.dueTold(x, 1, 1, 0, 1, NONE, 0);
        CHECK.dueCalled(x, 0, 1, 2, 1, 50, 99);
        BargeBourse y = withSkippers("c1;p0", 2);
        y.wants(0, 5, 0);
        y.sign(0, 0);
        y.sign(1, 0);
        y.cargo(0, 2, 10, 0, 49);
        y.wants(1, 0, 4);
        y.cargo(0, 1, 10, 0, 50);
        y.step(1);
        CHECK.dueTold(y, 1, 1, 0, 1, NONE, 0);
        y = withSkippers("c1;p0", 3);
        y.wants(0, 5, 0);
        y.sign(0, 0);
        y.sign(1, 0);
        y.sign(2, 0);
        y.cargo(0, 2, 10, 0, 49);
        y.cargo(0, 1, 10, 0, 50);
        y.step(1);
        CHECK.dueTold(y, 0, 1, 1, 1, NONE, 1);
        CHECK.dueTold(y, 1, 1, 2, 1, NONE, 0);
        CHECK.dueList(y, 0, 0);
    }

    private static void onlyWhoPassedMoves() {
        BargeBourse x = withSkippers("c1;p9", 3);
        x.wants(0, 1, 0);
        x.wants(1, 1, 0);
        x.sign(0, 0);
        x.sign(1, 0);
        x.cargo(0, 1, 10, 0, 0);
        x.step(3);
        x.sign(2, 0);
        Check.law(x, "c1;p2");
        x.wants(0, 0, 0);
        x.step(1);
        CHECK.due("1 was not asked", x.look(1, 3), 3);
        CHECK.dueList(x, 0, 1, 2);
    }

    private static void callsOfAllTowns() {
        BargeBourse x = withSkippers("c1", 2);
        x.sign(0, 1);
        x.sign(1, 0);
        x.cargo(0, 1, 10, 0, 7);
        x.cargo(1, 2, 10, 0, 100000);
        x.cargo(1, 0, 10, 0, 9);
        x.cargo(2, 0, 10, 0, 9);
        x.step(1);
        CHECK.dueCalled(x, 0, 1, 1, 1, 7, 7);
        CHECK.dueCalled(x, 1, 1, 2, 1, 100000, 100000);
        CHECK.dueCalled(x, 2, 1, 1, 0, 0, 0);
        CHECK.dueCalled(x, 7, 1, 0, 0, 0, 0);
    }
}
