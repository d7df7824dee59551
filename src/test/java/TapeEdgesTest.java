/** The edges of promises 1 to 4, and of THE LAW's text in the terms: one method for each sentence. */
public final class TapeEdgesTest {
    private static final int NONE = BargeBourse.NONE;
    private static final int MAX = Integer.MAX_VALUE;
    private static final int MIN = Integer.MIN_VALUE;
    private static final String LETTERS = "cpufd";
    private static final String SIXTY = "c0012;p0003;u9999;f0999;d9999;c0001;p0009;u0001;f0000;d00077";
    private static final Check CHECK = new Check("TapeEdgesTest");

    public static void main(String[] args) {
        newHasNothing();
        newHasTheLawAsAtFirst();
        feedFillsSixty();
        feedRefusedLeavesTheBytes();
        feedPutsTheHighestByteFirst();
        feedTakesAnyInts();
        lawHasNotSoMany();
        lawOfNoBytes();
        lawOfAllBytes();
        lawEmptiesTheTape();
        lawFaultEmptiesTheTape();
        lawStaysWithAFault();
        numbersOfEachLetter();
        oneToFourDigits();
        whatIsNotToldIsAsAtFirst();
        theLaterOneCounts();
        faultOneAnyByte();
        faultTwoAnyByte();
        faultThreeAtTheFirstDigit();
        faultFourAnyByte();
        endBehindASemicolon();
        theFirstFaultFromTheLeft();
        faultsAtTheTapesEnd();
        clauses();
        CHECK.end();
    }

    private static int lawOf(String text) {
        return Check.law(new BargeBourse(), text);
    }

    private static void dueLaw(String text, int want) {
        CHECK.due("law \"" + text + "\"", lawOf(text), want);
    }

    private static void dueClauses(BargeBourse x, int... want) {
        for (int what = 0; what < want.length; what++) {
            CHECK.due("clause(" + what + ")", x.clause(what), want[what]);
        }
    }

    private static void newHasNothing() {
        BargeBourse x = new BargeBourse();
        for (int what = 0; what <= 8; what++) {
            CHECK.due("new: count(" + what + ")", x.count(what), 0);
        }
        CHECK.due("no canal", x.depth(0, 1), false);
        CHECK.due("no skipper to look at", x.look(0, 0), NONE);
        CHECK.due("no skipper who wants", x.wants(0, 0, 0), false);
        CHECK.due("no skipper who signs", x.sign(0, 0), NONE);
        CHECK.due("no skipper who leaves", x.leave(0), false);
        CHECK.due("no cargo", x.told(0, 0), NONE);
        CHECK.due("nobody can", x.can(0, 0), NONE);
        CHECK.due("no way", x.way(0, 0, 0), NONE);
        for (int t = 0; t < 8; t++) {
            CHECK.dueList(x, t);
            CHECK.due("best of nothing", x.best(t), 0);
            CHECK.dueCalled(x, t, NONE, NONE, NONE, NONE, NONE);
        }
        CHECK.due("the first hour", x.step(1), 1);
    }

    private static void newHasTheLawAsAtFirst() {
        BargeBourse x = new BargeBourse();
        dueClauses(x, 24, 2, 50, 6, 10);
        x.step(23);
        CHECK.due("no call before hour 24", x.called(0, 0), NONE);
        x.step(1);
        CHECK.dueCalled(x, 0, 24, 0, 0, 0, 0);
    }

    private static void feedFillsSixty() {
        BargeBourse x = new BargeBourse();
        CHECK.due("the empty tape", x.count(8), 0);
        for (int length = 20; length <= 60; length += 20) {
            CHECK.due("feed", x.feed(0, 0, 0, 0, 0), length);
            CHECK.due("count(8)", x.count(8), length);
        }
        CHECK.due("feed beyond 60", x.feed(0, 0, 0, 0, 0), NONE);
        CHECK.due("count(8)", x.count(8), 60);
    }

    private static void feedRefusedLeavesTheBytes() {
        BargeBourse x = new BargeBourse();
        Check.feed(x, SIXTY.substring(0, 59) + ' ');
        CHECK.due("feed beyond 60", x.feed(MIN, MAX, -1, 0, 1), NONE);
        CHECK.due("the old bytes", x.law(59), 0);
        dueClauses(x, 1, 9, 1, 0, 7);
    }

    private static void feedPutsTheHighestByteFirst() {
        BargeBourse x = new BargeBourse();
        CHECK.due("feed", x.feed(0x63313b70, 0x323b7533, 0x3b66343b, 0x64353b63, 0x36202020), 20);
        CHECK.due("law", x.law(17), 0);
        dueClauses(x, 6, 2, 3, 4, 5);
        String acrossTwoFeeds = "c111;p1;u1111;d1111;f222;p2;d2222;f333;p3;u3333";
        CHECK.due("law", Check.law(x, acrossTwoFeeds), 0);
        dueClauses(x, 111, 3, 3333, 333, 2222);
    }

    private static void feedTakesAnyInts() {
        for (int any : new int[] {MIN, MAX, -1, 0}) {
            BargeBourse x = new BargeBourse();
            CHECK.due("feed of " + any, x.feed(0x63313b63, any, any, any, any), 20);
            CHECK.due("its highest byte is no digit", x.law(20), 204);
            CHECK.due("feed of " + any, x.feed(any, any, any, any, any), 20);
            CHECK.due("its highest byte is no letter", x.law(20), 100);
        }
    }

    private static void lawHasNotSoMany() {
        for (int feeds = 0; feeds <= 3; feeds++) {
            BargeBourse x = new BargeBourse();
            for (int i = 0; i < feeds; i++) {
                x.feed(0x63372020, 0, 0, 0, 0);
            }
            for (int n : new int[] {feeds * 20 + 1, -1, 61, MAX, MIN}) {
                CHECK.due("law(" + n + ") of " + feeds * 20 + " bytes", x.law(n), NONE);
                CHECK.due("the tape stays", x.count(8), feeds * 20);
            }
            CHECK.due("the law stays", x.clause(0), 24);
            CHECK.due("the bytes stay", x.law(Math.min(2, feeds * 20)), feeds == 0 ? 100 : 0);
            CHECK.due("the law", x.clause(0), feeds == 0 ? 24 : 7);
        }
    }

    private static void lawOfNoBytes() {
        BargeBourse x = new BargeBourse();
        CHECK.due("law(0), the tape is empty", x.law(0), 100);
        Check.feed(x, "c7");
        CHECK.due("law(0), the tape is not empty", x.law(0), 100);
        CHECK.due("the tape is empty then", x.count(8), 0);
        dueClauses(x, 24, 2, 50, 6, 10);
    }

    private static void lawOfAllBytes() {
        BargeBourse x = new BargeBourse();
        Check.feed(x, "c007;p3;u40;f50;d600");
        CHECK.due("20 of 20", x.law(20), 0);
        dueClauses(x, 7, 3, 40, 50, 600);
        String sixty = "p1;c999;f888;c0012;p0003;u9999;f0999;d9999;c0001;p0009;u0020";
        Check.feed(x, sixty);
        CHECK.due("60 of 60", x.law(60), 0);
        dueClauses(x, 1, 9, 20, 999, 9999);
        Check.feed(x, sixty);
        CHECK.due("59 of 60", x.law(59), 0);
        dueClauses(x, 1, 9, 2, 999, 9999);
        Check.feed(x, sixty);
        CHECK.due("1 of 60", x.law(1), 201);
    }

    private static void lawEmptiesTheTape() {
        BargeBourse x = new BargeBourse();
        Check.feed(x, "c5;p1;u77;f1111111111111111111111111111111111111111111111111");
        CHECK.due("the first two of 60", x.law(2), 0);
        CHECK.due("the tape is empty", x.count(8), 0);
        CHECK.due("no byte is there", x.law(1), NONE);
        dueClauses(x, 5, 2, 50, 6, 10);
        CHECK.due("feed begins anew", x.feed(0x70372020, 0, 0, 0, 0), 20);
        CHECK.due("law of what was fed then", x.law(2), 0);
        dueClauses(x, 24, 7, 50, 6, 10);
    }

    private static void lawFaultEmptiesTheTape() {
        for (String text : new String[] {"x1", "c", "c0", "c1 "}) {
            BargeBourse x = new BargeBourse();
            Check.feed(x, text);
            CHECK.due("a fault", x.law(text.length()) >= 100, true);
            CHECK.due("the tape is empty", x.count(8), 0);
            CHECK.due("no byte is there", x.law(1), NONE);
            CHECK.due("room for 60 again", Check.feed(x, SIXTY), 60);
        }
    }

    private static void lawStaysWithAFault() {
        for (String end : new String[] {";x1", ";c", ";c0", ";p10", ";u00001", " ", ";"}) {
            BargeBourse x = new BargeBourse();
            CHECK.due("a law", Check.law(x, "c1;p1;u1;f1;d1"), 0);
            CHECK.due("a fault at the end", Check.law(x, "c2;p2;u2;f2;d2" + end) >= 100, true);
            dueClauses(x, 1, 1, 1, 1, 1);
        }
    }

    private static void numbersOfEachLetter() {
        int[] least = {1, 0, 1, 0, 0};
        int[] most = {999, 9, 9999, 999, 9999};
        for (int what = 0; what < 5; what++) {
            char letter = LETTERS.charAt(what);
            for (int number : new int[] {least[what], most[what]}) {
                BargeBourse x = new BargeBourse();
                CHECK.due("law " + letter + number, Check.law(x, "" + letter + number), 0);
                CHECK.due("clause " + letter, x.clause(what), number);
            }
            dueLaw("" + letter + (most[what] + 1), 301);
            dueLaw(letter + "-1", 201);
            dueLaw(letter + "0", least[what] == 0 ? 0 : 301);
            dueLaw(letter + "0000", least[what] == 0 ? 0 : 301);
            dueLaw(letter + "9999", most[what] == 9999 ? 0 : 301);
            dueLaw(letter + "2147483648", 301);
            dueLaw(letter + "4294967297", 301);
        }
    }

    private static void oneToFourDigits() {
        for (int what = 0; what < 5; what++) {
            char letter = LETTERS.charAt(what);
            dueLaw("" + letter, 201);
            for (String digits : new String[] {"7", "07", "007", "0007"}) {
                BargeBourse x = new BargeBourse();
                CHECK.due("law " + letter + digits, Check.law(x, letter + digits), 0);
                CHECK.due("clause " + letter, x.clause(what), 7);
            }
            dueLaw(letter + "00007", 301);
            dueLaw(letter + "000000007", 301);
            dueLaw("p1;" + letter + "00007;c0", 304);
        }
    }

    private static void whatIsNotToldIsAsAtFirst() {
        int[] first = {24, 2, 50, 6, 10};
        for (int what = 0; what < 5; what++) {
            BargeBourse x = new BargeBourse();
            Check.law(x, "c5;p5;u5;f5;d5");
            CHECK.due("one clause", Check.law(x, LETTERS.charAt(what) + "8"), 0);
            for (int other = 0; other < 5; other++) {
                CHECK.due("clause(" + other + ")", x.clause(other), other == what ? 8 : first[other]);
            }
        }
    }

    private static void theLaterOneCounts() {
        for (int what = 0; what < 5; what++) {
            char c = LETTERS.charAt(what);
            BargeBourse x = new BargeBourse();
            CHECK.due("two", Check.law(x, c + "9;" + c + "3"), 0);
            CHECK.due("the later of two", x.clause(what), 3);
            CHECK.due("three", Check.law(x, c + "3;" + c + "9;" + c + "4"), 0);
            CHECK.due("the latest of three", x.clause(what), 4);
            dueLaw(c + "10000;" + c + "3", 301);
            dueLaw(c + "3;" + c + "10000", 304);
        }
    }

    private static void faultOneAnyByte() {
        for (int b = 0; b < 256; b++) {
            boolean letter = LETTERS.indexOf(b) >= 0;
            dueLaw((char) b + "1", letter ? 0 : 100);
            dueLaw("c1;" + (char) b + "1", letter ? 0 : 103);
        }
    }

    private static void faultTwoAnyByte() {
        for (int b = 0; b < 256; b++) {
            boolean digit = b >= '0' && b <= '9';
            dueLaw("d" + (char) b, digit ? 0 : 201);
            dueLaw("c1;f" + (char) b, digit ? 0 : 204);
        }
        dueLaw("c", 201);
        dueLaw("c;", 201);
        dueLaw("c1;p", 204);
    }

    private static void faultThreeAtTheFirstDigit() {
        dueLaw("c0", 301);
        dueLaw("c1000", 301);
        dueLaw("c99999", 301);
        dueLaw("c1;p0010", 304);
        dueLaw("c001;u0000", 306);
        dueLaw("c001;p1;f1000;d1", 309);
    }

    private static void faultFourAnyByte() {
        for (int b = 0; b < 256; b++) {
            boolean digit = b >= '0' && b <= '9';
            dueLaw("u1" + (char) b, digit ? 0 : b == ';' ? 103 : 402);
            dueLaw("u1234" + (char) b, digit ? 301 : b == ';' ? 106 : 405);
            dueLaw("u1" + (char) b + "d2", digit ? 403 : b == ';' ? 0 : 402);
        }
    }

    private static void endBehindASemicolon() {
        dueLaw(";", 100);
        dueLaw("c1;", 103);
        dueLaw("c0999;", 106);
        dueLaw("c1;p2;", 106);
        dueLaw("c1;;", 103);
        BargeBourse x = new BargeBourse();
        Check.feed(x, "c1;p2");
        CHECK.due("the text ends behind the ;, the tape does not", x.law(3), 103);
    }

    private static void theFirstFaultFromTheLeft() {
        dueLaw("x;c;c0;c1 ", 100);
        dueLaw("c;x;c0;c1 ", 201);
        dueLaw("c0;x;c;c1 ", 301);
        dueLaw("c1 ;x;c;c0", 402);
        dueLaw("c0x", 301);
        dueLaw("c12345x", 301);
        dueLaw("cx0", 201);
        dueLaw("xx", 100);
    }

    private static void faultsAtTheTapesEnd() {
        String fifty = SIXTY.substring(0, 54);
        dueLaw(SIXTY.substring(0, 59), 0);
        dueLaw(SIXTY.substring(0, 59) + ";", 160);
        dueLaw(SIXTY, 355);
        dueLaw(SIXTY.substring(0, 59) + " ", 459);
        dueLaw(fifty + "p003;d", 260);
        dueLaw(fifty + "p003;x", 159);
        dueLaw(fifty + "p03;p0", 0);
        dueLaw(fifty + "p03;u0", 359);
    }

    private static void clauses() {
        BargeBourse x = new BargeBourse();
        Check.law(x, "c11;p2;u33;f44;d55");
        dueClauses(x, 11, 2, 33, 44, 55);
        for (int what : new int[] {-1, 5, MIN, MAX}) {
            CHECK.due("clause(" + what + ")", x.clause(what), NONE);
        }
    }
}
