/** Promises 1 to 4: a new object, the tape, the law's text and its clauses. */
public final class LawTest {
    private static final int NONE = BargeBourse.NONE;
    private static final Check CHECK = new Check("LawTest");

    public static void main(String[] args) {
        newObject();
        tape();
        tapeStaysOrIsEmptied();
        goodTexts();
        edgesOfNumbers();
        faults();
        faultsLeaveTheLaw();
        CHECK.end();
    }

    private static void dueClauses(BargeBourse x, String name, int... want) {
        for (int what = 0; what < want.length; what++) {
            CHECK.due(name + ": clause(" + what + ")", x.clause(what), want[what]);
        }
    }

    private static void dueLaw(String text, int want) {
        CHECK.due("law \"" + text + "\"", Check.law(new BargeBourse(), text), want);
    }

    private static void newObject() {
        BargeBourse x = new BargeBourse();
        dueClauses(x, "new", 24, 2, 50, 6, 10);
        CHECK.due("clause(-1)", x.clause(-1), NONE);
        CHECK.due("clause(5)", x.clause(5), NONE);
        CHECK.due("clause(max)", x.clause(Integer.MAX_VALUE), NONE);
        CHECK.due("clause(min)", x.clause(Integer.MIN_VALUE), NONE);
        for (int what = 0; what <= 8; what++) {
            CHECK.due("new: count(" + what + ")", x.count(what), 0);
        }
        for (int t = 0; t < 8; t++) {
            CHECK.due("new: list", x.list(t, 0), NONE);
            CHECK.due("new: best", x.best(t), 0);
            CHECK.dueCalled(x, t, NONE, NONE, NONE, NONE, NONE);
        }
        CHECK.due("new: look", x.look(0, 0), NONE);
        CHECK.due("new: told", x.told(0, 0), NONE);
    }

    private static void tape() {
        BargeBourse x = new BargeBourse();
        CHECK.due("feed 1", x.feed(0, 0, 0, 0, 0), 20);
        CHECK.due("feed 2", x.feed(-1, -1, -1, -1, -1), 40);
        CHECK.due("feed 3", x.feed(1, 2, 3, 4, 5), 60);
        CHECK.due("feed 4", x.feed(1, 2, 3, 4, 5), NONE);
        CHECK.due("count(8)", x.count(8), 60);
        CHECK.due("law(61)", x.law(61), NONE);
        CHECK.due("law of noughts", x.law(60), 100);
        CHECK.due("count(8)", x.count(8), 0);
        CHECK.due("feed again", x.feed(0, 0, 0, 0, 0), 20);
    }

    private static void tapeStaysOrIsEmptied() {
        BargeBourse x = new BargeBourse();
        CHECK.due("law(1) of nothing", x.law(1), NONE);
        CHECK.due("law(0) of nothing", x.law(0), 100);
        Check.feed(x, "c5");
        CHECK.due("law(21)", x.law(21), NONE);
        CHECK.due("law(-1)", x.law(-1), NONE);
        CHECK.due("law(min)", x.law(Integer.MIN_VALUE), NONE);
        CHECK.due("law(max)", x.law(Integer.MAX_VALUE), NONE);
        CHECK.due("the tape stays", x.count(8), 20);
        CHECK.due("law(2)", x.law(2), 0);
        CHECK.due("the tape is empty", x.count(8), 0);
        CHECK.due("clause(0)", x.clause(0), 5);
        Check.feed(x, "c6");
        CHECK.due("law(0)", x.law(0), 100);
        CHECK.due("the tape is empty after a fault", x.count(8), 0);
        CHECK.due("law(2) then", x.law(2), NONE);
        dueClauses(x, "old law", 5, 2, 50, 6, 10);
    }

    private static void goodTexts() {
        BargeBourse x = new BargeBourse();
        CHECK.due("all", Check.law(x, "d1;f2;u3;p4;c5"), 0);
        dueClauses(x, "all", 5, 4, 3, 2, 1);
        CHECK.due("what is not told", Check.law(x, "f7"), 0);
        dueClauses(x, "what is not told", 24, 2, 50, 7, 10);
        CHECK.due("the later counts", Check.law(x, "c5;p1;c0007;p0"), 0);
        dueClauses(x, "the later counts", 7, 0, 50, 6, 10);
        String longest = "p1;c999;f888;c0012;p0003;u9999;f0999;d9999;c0001;p0009;u0001";
        CHECK.due("a text of 60 bytes", longest.length(), 60);
        CHECK.due("60 bytes", Check.law(x, longest), 0);
        dueClauses(x, "60 bytes", 1, 9, 1, 999, 9999);
        Check.feed(x, "c12345");
        CHECK.due("only the first n bytes", x.law(4), 0);
        dueClauses(x, "only the first n bytes", 123, 2, 50, 6, 10);
    }

    private static void edgesOfNumbers() {
        String[] good = {"c1", "c999", "p0", "p9", "u1", "u9999", "f0", "f999", "d0", "d9999", "c0001", "p0009"};
        String[] bad = {"c0", "c1000", "p10", "u0", "u0000", "f1000", "c00001", "p00000", "d10000", "u99999"};
        for (String text : good) {
            dueLaw(text, 0);
        }
        for (String text : bad) {
            dueLaw(text, 301);
        }
    }

    private static void faults() {
        dueLaw("x1", 100);
        dueLaw("C1", 100);
        dueLaw(" c1", 100);
        dueLaw(";c1", 100);
        dueLaw("1", 100);
        dueLaw("c1;;p1", 103);
        dueLaw("c1;", 103);
        dueLaw("c1;p2;e3", 106);
        dueLaw("c", 201);
        dueLaw("c;", 201);
        dueLaw("c1;px", 204);
        dueLaw("c-1", 201);
        dueLaw("c/", 201);
        dueLaw("c:", 201);
        dueLaw("c1;p10;x", 304);
        dueLaw("c0x", 301);
        dueLaw("c12x;", 403);
        dueLaw("c1 ", 402);
        dueLaw("c1,p1", 402);
        dueLaw("c1;p1p", 405);
        dueLaw("c9999x", 301);
        dueLaw("u9999x", 405);
        dueLaw("c1;\u00ff", 103);
        dueLaw("c1\u00bb", 402);
        dueLaw("\u00e3" + "1", 100);
        dueLaw("c0012;p0003;u9999;f0999;d9999;c0001;p0009;u0001;f0000;d0007x", 459);
        dueLaw("c0012;p0003;u9999;f0999;d9999;c0001;p0009;u0001;f0000;d0007;", 160);
    }

    private static void faultsLeaveTheLaw() {
        BargeBourse x = new BargeBourse();
        CHECK.due("a law", Check.law(x, "c1;p1;u1;f1;d1"), 0);
        CHECK.due("a fault late", Check.law(x, "c2;p2;u2;f2;d2;"), 115);
        dueClauses(x, "the law stays", 1, 1, 1, 1, 1);
    }
}
