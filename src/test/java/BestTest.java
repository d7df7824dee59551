import java.util.Random;

/** Promise 20 (and what called(t, 4) tells): the best sharing out. */
public final class BestTest {
    private static final int NONE = BargeBourse.NONE;
    private static final Check CHECK = new Check("BestTest");

    public static void main(String[] args) {
        refused();
        oneEach();
        whateverTheyWant();
        othersAreMoved();
        tenCargoesAtMost();
        onlyWhatWaitsAndWhoIsSigned();
        toldAheadOfTheCall();
        theLastOfAFullList();
        fullHalls();
        CHECK.end();
    }

    private static BargeBourse withCanal(int depth) {
        BargeBourse x = new BargeBourse();
        Check.law(x, "c1");
        x.canal(0, 1, 1, depth, 0);
        return x;
    }

    private static void signed(BargeBourse x, int hold, int kinds) {
        x.sign(x.skipper(hold, 1, 20, kinds), 0);
    }

    private static void refused() {
        BargeBourse x = withCanal(100);
        for (int t : new int[] {-1, 8, Integer.MAX_VALUE, Integer.MIN_VALUE}) {
            CHECK.due("best(" + t + ")", x.best(t), NONE);
        }
        CHECK.due("nothing there", x.best(0), 0);
        x.cargo(0, 1, 10, 0, 9);
        CHECK.due("nobody there", x.best(0), 0);
    }

    private static void oneEach() {
        BargeBourse x = withCanal(100);
        x.cargo(0, 1, 10, 0, 5);
        x.cargo(0, 1, 10, 0, 100000);
        x.cargo(0, 1, 10, 0, 7);
        signed(x, 600, 7);
        CHECK.due("one skipper", x.best(0), 100000);
        signed(x, 600, 7);
        CHECK.due("two skippers", x.best(0), 100007);
        signed(x, 9, 7);
        CHECK.due("one who can't", x.best(0), 100007);
        signed(x, 10, 1);
        CHECK.due("three who can", x.best(0), 100012);
        x.depth(0, 1);
        CHECK.due("low water", x.best(0), 0);
    }

    private static void whateverTheyWant() {
        BargeBourse x = withCanal(100);
        signed(x, 600, 7);
        x.wants(0, 1000, 255);
        x.cargo(0, 1, 10, 0, 5);
        CHECK.due("whatever it wants", x.best(0), 5);
        x.step(1);
        CHECK.dueCalled(x, 0, 1, 1, 0, 0, 5);
    }

    private static void othersAreMoved() {
        BargeBourse x = withCanal(100);
        signed(x, 600, 1 | 2 | 4);
        signed(x, 600, 1 | 2);
        signed(x, 600, 1);
        x.cargo(0, 1, 10, 0, 100);
        x.cargo(0, 1, 10, 1, 90);
        x.cargo(0, 1, 10, 2, 80);
        CHECK.due("a chain of two", x.best(0), 270);
        x.cargo(0, 1, 10, 0, 85);
        CHECK.due("the dearer two and one that fits", x.best(0), 275);
        x.cargo(0, 1, 10, 2, 300);
        CHECK.due("the dearest last", x.best(0), 490);
        x.cargo(0, 1, 10, 2, 300);
        CHECK.due("only one can carry it", x.best(0), 490);
    }

    private static void tenCargoesAtMost() {
        BargeBourse x = withCanal(100);
        signed(x, 600, 1);
        signed(x, 600, 1);
        x.cargo(1, 0, 10, 0, 99999);
        for (int i = 0; i < 9; i++) {
            x.cargo(0, 1, 10, 1, 1000);
        }
        x.cargo(0, 1, 10, 0, 3);
        CHECK.due("the tenth counts", x.best(0), 3);
        x.cargo(0, 1, 10, 0, 4);
        CHECK.due("the eleventh does not", x.best(0), 3);
        x.step(1);
        CHECK.dueCalled(x, 0, 1, 11, 2, 7, 3);
        signed(x, 600, 1);
        x.cargo(0, 1, 10, 0, 5);
        CHECK.due("the lowest that wait", x.best(0), 5);
    }

    private static void onlyWhatWaitsAndWhoIsSigned() {
        BargeBourse x = withCanal(100);
        signed(x, 600, 7);
        signed(x, 600, 7);
        x.cargo(0, 1, 10, 0, 10);
        x.step(1);
        CHECK.due("it is on a barge", x.best(0), 0);
        x.cargo(0, 1, 10, 0, 20);
        x.cargo(0, 1, 10, 0, 30);
        CHECK.due("one is signed", x.best(0), 30);
        x.leave(1);
        CHECK.due("none is signed", x.best(0), 0);
        x.sign(1, 1);
        CHECK.due("one in another hall", x.best(0), 0);
        CHECK.due("nothing waits there", x.best(1), 0);
    }

    private static void toldAheadOfTheCall() {
        BargeBourse x = withCanal(100);
        signed(x, 600, 1 | 2);
        signed(x, 600, 1);
        x.cargo(0, 1, 10, 0, 10);
        x.cargo(0, 1, 10, 1, 50);
        CHECK.due("best", x.best(0), 60);
        x.step(1);
        CHECK.dueCalled(x, 0, 1, 2, 1, 10, 60);
        CHECK.due("best then", x.best(0), 0);
    }

    private static void theLastOfAFullList() {
        BargeBourse x = withCanal(100);
        for (int s = 0; s < 14; s++) {
            signed(x, 1, 1);
        }
        signed(x, 20, 2);
        signed(x, 20, 1 | 2);
        x.cargo(0, 1, 20, 1, 8);
        CHECK.due("the fifteenth and the sixteenth can", x.best(0), 8);
        x.cargo(0, 1, 20, 0, 5);
        CHECK.due("one each", x.best(0), 13);
        x.leave(14);
        CHECK.due("one alone", x.best(0), 8);
    }

    /** Sixteen skippers and more than ten cargoes, beside the plain model that tries all out. */
    private static void fullHalls() {
        for (int run = 0; run < 300; run++) {
            Random random = new Random(run);
            BargeBourse x = withCanal(60);
            PlainBourse y = new PlainBourse();
            y.canal(0, 1, 1, 60, 0);
            int most = 1 + random.nextInt(16);
            for (int s = 0; s < most; s++) {
                int hold = 1 + random.nextInt(100);
                int empty = 10 + random.nextInt(50);
                int kinds = 1 + random.nextInt(7);
                x.skipper(hold, empty, 5, kinds);
                y.skipper(hold, empty, 5, kinds);
                x.sign(s, 0);
                y.sign(s, 0);
            }
            for (int c = 0; c < 12; c++) {
                int tons = 1 + random.nextInt(90);
                int kind = random.nextInt(3);
                int pence = random.nextInt(200);
                x.cargo(0, 1, tons, kind, pence);
                y.cargo(0, 1, tons, kind, pence);
                CHECK.due("run " + run + ", cargo " + c + ": best", x.best(0), y.best(0));
            }
        }
    }
}
