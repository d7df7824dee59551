/** The edges of promises 10, 11, 18, 19 and 20: signing, leaving, lists, calls and the best. */
public final class HallEdgesTest {
    private static final int NONE = BargeBourse.NONE;
    private static final int MAX = Integer.MAX_VALUE;
    private static final int MIN = Integer.MIN_VALUE;
    private static final Check CHECK = new Check("HallEdgesTest");

    public static void main(String[] args) {
        signOfSkippersAndTowns();
        signOnlyWhenOff();
        sixteenInOneList();
        leaveOnlyWhenSigned();
        leaveAtEachPlace();
        listOfTownsAndPlaces();
        calledOfTownsAndWhat();
        calledBeforeTheFirstCall();
        calledWithNothingThere();
        calledIsTheLatest();
        sixtyAreCalled();
        moreThanSoManyPasses();
        whoCannotDoesNotPass();
        penceNotBelowTheWish();
        eachTownIsRefusedByItsBit();
        severalGoInTheirOrder();
        bestOfTowns();
        bestOfNothing();
        bestOfTenCargoes();
        bestOfTheGreatestPence();
        bestOfTheSixteenth();
        bestOfOneTownAfterAnother();
        CHECK.end();
    }

    /** Canals from town 0 to each other town, and skippers who can carry any cargo from there. */
    private static BargeBourse star(String law, int skippers) {
        BargeBourse x = new BargeBourse();
        CHECK.due("law " + law, Check.law(x, law), 0);
        for (int t = 1; t < 8; t++) {
            x.canal(0, t, 1, 100, 0);
        }
        for (int s = 0; s < skippers; s++) {
            x.skipper(600, 10, 20, 7);
        }
        return x;
    }

    private static void signOfSkippersAndTowns() {
        CHECK.dueRange("sign, skipper", 0, 2, 1, NONE, s -> star("c1", 3).sign(s, 0));
        CHECK.dueRange("sign, the last skipper", 0, 15, 1, NONE, s -> star("c1", 16).sign(s, 0));
        CHECK.dueRange("sign, town", 0, 7, 1, NONE, t -> star("c1", 1).sign(0, t));
        for (int t = 0; t < 8; t++) {
            BargeBourse x = star("c1", 1);
            x.sign(0, t);
            CHECK.dueLook(x, 0, 1, t, 1, 0, NONE, 0, 0, 0, NONE, 10);
            CHECK.dueList(x, t, 0);
        }
    }

    private static void signOnlyWhenOff() {
        BargeBourse x = Busy.make();
        for (int s = 0; s < Busy.SKIPPERS; s++) {
            CHECK.due("state", x.look(s, 0), s);
        }
        for (int s = 1; s < Busy.SKIPPERS; s++) {
            for (int t = 0; t < 8; t++) {
                CHECK.due("sign in state " + s, x.sign(s, t), NONE);
            }
            CHECK.due("its state stays", x.look(s, 0), s);
        }
        CHECK.due("the lists stay", x.count(7), 1);
        CHECK.due("passes stay", x.look(1, 3), 2);
        CHECK.due("passes stay when off", x.look(0, 3), 1);
        CHECK.due("sign when off", x.sign(0, 3), 2);
        CHECK.due("passes when signing", x.look(0, 3), 0);
    }

    private static void sixteenInOneList() {
        BargeBourse x = star("c1", 16);
        for (int s = 15; s >= 0; s--) {
            CHECK.due("place from 1 on", x.sign(s, 7), 16 - s);
        }
        CHECK.dueList(x, 7, 15, 14, 13, 12, 11, 10, 9, 8, 7, 6, 5, 4, 3, 2, 1, 0);
        CHECK.due("place of the last", x.look(0, 2), 16);
        CHECK.due("place of the first", x.look(15, 2), 1);
        CHECK.due("signed", x.count(7), 16);
    }

    private static void leaveOnlyWhenSigned() {
        BargeBourse x = Busy.make();
        for (int s : new int[] {0, 2, 3, 4, 5, 6, 7, -1, 15, 16, MIN, MAX}) {
            CHECK.due("leave(" + s + ")", x.leave(s), false);
        }
        for (int s = 0; s < Busy.SKIPPERS; s++) {
            CHECK.due("state", x.look(s, 0), s);
        }
        CHECK.due("leave when signed", x.leave(1), true);
        CHECK.dueLook(x, 1, 0, NONE, NONE, 2, NONE, 0, 0, 0, NONE, 10);
        CHECK.due("leave when off", x.leave(1), false);
        CHECK.dueList(x, 3);
        CHECK.due("nobody is signed", x.count(7), 0);
    }

    private static void leaveAtEachPlace() {
        BargeBourse x = star("c1", 5);
        for (int s = 0; s < 5; s++) {
            x.sign(s, 4);
        }
        CHECK.due("the middle one", x.leave(2), true);
        CHECK.dueList(x, 4, 0, 1, 3, 4);
        CHECK.due("the first", x.leave(0), true);
        CHECK.dueList(x, 4, 1, 3, 4);
        CHECK.due("the last", x.leave(4), true);
        CHECK.dueList(x, 4, 1, 3);
        CHECK.due("its place", x.look(3, 2), 2);
        x.leave(1);
        CHECK.due("its place then", x.look(3, 2), 1);
        CHECK.due("the only one", x.leave(3), true);
        CHECK.dueList(x, 4);
        CHECK.due("the empty list's first place", x.sign(2, 4), 1);
    }

    private static void listOfTownsAndPlaces() {
        BargeBourse x = star("c1", 16);
        for (int i : new int[] {0, -1, 1, MIN, MAX}) {
            CHECK.due("a place of an empty list", x.list(5, i), NONE);
        }
        for (int s = 0; s < 16; s++) {
            x.sign(s, s < 3 ? 0 : 7);
        }
        for (int t : new int[] {-1, 8, MIN, MAX}) {
            CHECK.due("list(" + t + ", 0)", x.list(t, 0), NONE);
        }
        for (int i : new int[] {-1, 3, 15, 16, MIN, MAX}) {
            CHECK.due("list(0, " + i + ")", x.list(0, i), NONE);
        }
        CHECK.dueList(x, 0, 0, 1, 2);
        CHECK.dueList(x, 7, 3, 4, 5, 6, 7, 8, 9, 10, 11, 12, 13, 14, 15);
    }

    private static void calledOfTownsAndWhat() {
        BargeBourse x = star("c1", 0);
        x.step(1);
        CHECK.dueRange("called, town", 0, 7, 1, NONE, t -> x.called(t, 0));
        CHECK.dueCalled(x, 3, 1, 0, 0, 0, 0);
        for (int what : new int[] {-1, 5, MIN, MAX}) {
            CHECK.due("called(0, " + what + ")", x.called(0, what), NONE);
        }
    }

    private static void calledBeforeTheFirstCall() {
        BargeBourse x = star("c3", 1);
        x.sign(0, 0);
        x.cargo(0, 1, 10, 0, 5);
        x.step(2);
        for (int t = 0; t < 8; t++) {
            CHECK.dueCalled(x, t, NONE, NONE, NONE, NONE, NONE, NONE);
        }
        x.step(1);
        CHECK.dueCalled(x, 0, 3, 1, 1, 5, 5);
    }

    private static void calledWithNothingThere() {
        BargeBourse x = star("c1", 2);
        x.sign(0, 1);
        x.cargo(2, 3, 10, 0, 5);
        x.step(1);
        CHECK.dueCalled(x, 0, 1, 0, 0, 0, 0);
        CHECK.dueCalled(x, 1, 1, 0, 0, 0, 0);
        CHECK.dueCalled(x, 2, 1, 1, 0, 0, 0);
        CHECK.dueCalled(x, 7, 1, 0, 0, 0, 0);
        CHECK.dueTold(x, 0, 0, NONE, NONE, NONE, NONE);
    }

    private static void calledIsTheLatest() {
        BargeBourse x = star("c2", 1);
        x.sign(0, 0);
        x.cargo(0, 1, 10, 0, 5);
        x.step(3);
        CHECK.dueCalled(x, 0, 2, 1, 1, 5, 5);
        x.step(1);
        CHECK.dueCalled(x, 0, 4, 0, 0, 0, 0);
    }

    private static void sixtyAreCalled() {
        BargeBourse x = star("c1", 16);
        for (int s = 0; s < 16; s++) {
            x.sign(s, 0);
        }
        for (int c = 0; c < 60; c++) {
            x.cargo(0, 1 + c % 7, 10, c % 3, 100000);
        }
        CHECK.due("best", x.best(0), 1000000);
        x.step(1);
        CHECK.dueCalled(x, 0, 1, 60, 16, 1600000, 1000000);
        CHECK.dueList(x, 0);
        CHECK.dueTold(x, 15, 1, 15, 1, NONE, 0);
        CHECK.dueTold(x, 16, 0, NONE, NONE, NONE, NONE);
        CHECK.due("they wait", x.count(4), 44);
        CHECK.due("on barges", x.count(5), 16);
        x.step(1);
        CHECK.dueCalled(x, 0, 2, 44, 0, 0, 0);
    }

    private static void moreThanSoManyPasses() {
        for (int p = 0; p <= 9; p++) {
            BargeBourse x = star("c1;p" + p, 2);
            x.skipper(1, 1, 1, 1);
            x.wants(0, 1, 0);
            x.sign(0, 0);
            x.sign(2, 0);
            x.cargo(0, 1, 10, 0, 9);
            for (int call = 1; call <= p; call++) {
                x.step(1);
                CHECK.due("p" + p + ": passes", x.look(0, 3), call);
                CHECK.dueList(x, 0, 0, 2);
            }
            x.step(1);
            CHECK.due("p" + p + ": passes at the end", x.look(0, 3), 0);
            CHECK.dueList(x, 0, 2, 0);
        }
    }

    private static void whoCannotDoesNotPass() {
        BargeBourse x = star("c1;p0", 1);
        x.skipper(9, 10, 20, 7);
        x.skipper(10, 10, 20, 6);
        x.skipper(10, 100, 20, 7);
        for (int s = 3; s >= 0; s--) {
            x.wants(s, 1000, 255);
            x.sign(s, 0);
        }
        x.cargo(0, 1, 10, 0, 0);
        x.step(1);
        for (int s = 0; s <= 3; s++) {
            CHECK.due("passes of " + s, x.look(s, 3), 0);
        }
        CHECK.dueList(x, 0, 3, 2, 1, 0);
        x.sign(x.skipper(10, 10, 20, 7), 0);
        x.step(1);
        CHECK.dueTold(x, 0, 1, 4, 2, NONE, 1);
        CHECK.dueList(x, 0, 3, 2, 1, 0);
    }

    private static void dueTaken(int wish, int tons, int pence, boolean want) {
        BargeBourse x = star("c1;p9", 1);
        x.wants(0, wish, 0);
        x.sign(0, 0);
        x.cargo(0, 1, tons, 0, pence);
        x.step(1);
        String name = "wish " + wish + ", " + tons + " tons, " + pence + " pence: ";
        CHECK.due(name + "taken", x.told(0, 0), want ? 1 : 0);
        CHECK.due(name + "passes", x.look(0, 3), want ? 0 : 1);
    }

    private static void penceNotBelowTheWish() {
        dueTaken(0, 600, 0, true);
        dueTaken(1, 1, 0, false);
        dueTaken(1, 1, 1, true);
        dueTaken(7, 60, 419, false);
        dueTaken(7, 60, 420, true);
        dueTaken(1000, 100, 99999, false);
        dueTaken(1000, 100, 100000, true);
        dueTaken(1000, 101, 100000, false);
        dueTaken(1000, 600, 100000, false);
        dueTaken(166, 600, 99600, true);
        dueTaken(167, 600, 100000, false);
    }

    private static void eachTownIsRefusedByItsBit() {
        for (int to = 1; to < 8; to++) {
            BargeBourse x = star("c1;p9", 1);
            x.sign(0, 0);
            x.cargo(0, to, 10, 0, 0);
            x.wants(0, 0, 1 << to);
            x.step(1);
            CHECK.due("not to town " + to, x.told(0, 0), 0);
            x.wants(0, 0, 255);
            x.step(1);
            CHECK.due("to no town", x.told(0, 0), 0);
            x.wants(0, 0, 255 - (1 << to));
            x.step(1);
            CHECK.due("to town " + to + " alone", x.told(0, 0), 1);
        }
        BargeBourse y = star("c1", 1);
        y.sign(0, 1);
        y.wants(0, 0, 1);
        y.cargo(1, 0, 10, 0, 0);
        y.step(1);
        CHECK.due("not to town 0", y.told(0, 0), 0);
        y.wants(0, 0, 254);
        y.step(1);
        CHECK.due("to town 0 alone", y.told(0, 0), 1);
    }

    private static void severalGoInTheirOrder() {
        BargeBourse x = star("c1;p0", 16);
        for (int i = 0; i < 16; i++) {
            int s = (i * 5 + 3) % 16;
            x.sign(s, 0);
            x.wants(s, 0, i % 3 == 0 ? 0 : 2);
        }
        CHECK.dueList(x, 0, 3, 8, 13, 2, 7, 12, 1, 6, 11, 0, 5, 10, 15, 4, 9, 14);
        x.wants(3, 0, 2);
        x.wants(2, 0, 2);
        x.cargo(0, 1, 10, 0, 0);
        x.step(1);
        CHECK.dueTold(x, 0, 1, 1, 1, NONE, 6);
        CHECK.dueList(x, 0, 6, 11, 0, 5, 10, 15, 4, 9, 14, 3, 8, 13, 2, 7, 12);
    }

    private static void bestOfTowns() {
        CHECK.dueRange("best, town", 0, 7, 0, NONE, t -> star("c1", 1).best(t));
    }

    private static void bestOfNothing() {
        BargeBourse x = star("c1", 1);
        CHECK.due("no cargo, nobody", x.best(0), 0);
        x.cargo(0, 1, 10, 0, 5);
        CHECK.due("nobody is signed", x.best(0), 0);
        x.sign(0, 1);
        CHECK.due("signed in another hall", x.best(0), 0);
        CHECK.due("no cargo there", x.best(1), 0);
        x.leave(0);
        x.sign(0, 0);
        CHECK.due("both", x.best(0), 5);
        x.depth(0, 0);
        CHECK.due("no way", x.best(0), 0);
    }

    private static void bestOfTenCargoes() {
        for (int cargoes = 9; cargoes <= 12; cargoes++) {
            BargeBourse x = star("c1", 16);
            for (int s = 0; s < 16; s++) {
                x.sign(s, 0);
            }
            for (int c = 0; c < cargoes; c++) {
                x.cargo(0, 1, 10, 0, 1 << c);
            }
            CHECK.due(cargoes + " cargoes: best", x.best(0), (1 << Math.min(10, cargoes)) - 1);
            x.step(1);
            CHECK.due(cargoes + " cargoes: called(0, 4)", x.called(0, 4), (1 << Math.min(10, cargoes)) - 1);
            CHECK.due(cargoes + " cargoes: called(0, 3)", x.called(0, 3), (1 << cargoes) - 1);
        }
    }

    private static void bestOfTheGreatestPence() {
        BargeBourse x = star("c1", 1);
        x.sign(0, 0);
        x.cargo(0, 1, 1, 0, 0);
        CHECK.due("0 pence", x.best(0), 0);
        x.cargo(0, 1, 600, 2, 100000);
        CHECK.due("100000 pence", x.best(0), 100000);
    }

    private static void bestOfTheSixteenth() {
        BargeBourse x = star("c1", 0);
        for (int s = 0; s < 16; s++) {
            x.skipper(s == 15 ? 10 : 9, 10, 20, 7);
            x.sign(s, 0);
        }
        x.cargo(0, 1, 10, 0, 7);
        CHECK.due("the sixteenth alone can", x.best(0), 7);
        x.cargo(0, 1, 10, 0, 8);
        CHECK.due("it takes one alone", x.best(0), 8);
        x.cargo(0, 1, 10, 0, 6);
        CHECK.due("it takes one alone", x.best(0), 8);
        x.leave(0);
        x.sign(0, 0);
        CHECK.due("as the fifteenth", x.best(0), 8);
    }

    private static void bestOfOneTownAfterAnother() {
        BargeBourse x = star("c1", 4);
        for (int c = 0; c < 10; c++) {
            x.cargo(0, 1, 10, 0, 1000 + c);
        }
        x.cargo(1, 0, 10, 0, 5);
        for (int s = 0; s < 4; s++) {
            x.sign(s, s / 2);
        }
        for (int i = 0; i < 2; i++) {
            CHECK.due("ten cargoes, two skippers", x.best(0), 1009 + 1008);
            CHECK.due("one cargo, two skippers", x.best(1), 5);
            CHECK.due("no cargo", x.best(2), 0);
        }
    }
}
