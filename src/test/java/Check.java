import java.nio.charset.StandardCharsets;
import java.util.function.IntPredicate;
import java.util.function.IntToLongFunction;

/** Counts the answers that are not as due and tells them. */
final class Check {
    private final String name;
    private int asked = 0;
    private int wrong = 0;

    Check(String name) {
        this.name = name;
    }

    void due(String call, long got, long want) {
        asked++;
        if (got != want) {
            wrong++;
            System.out.println(name + ": " + call + " answered " + got + ", due is " + want);
        }
    }

    void due(String call, boolean got, boolean want) {
        due(call, got ? 1L : 0L, want ? 1L : 0L);
    }

    /**
     * One argument of a call: good is due for the first and the last number that it may be, bad for
     * the numbers beside these and for the least and the greatest int.
     */
    void dueRange(String name, int least, int most, long good, long bad, IntToLongFunction call) {
        for (int n : new int[] {least, most}) {
            due(name + " " + n, call.applyAsLong(n), good);
        }
        for (int n : new int[] {least - 1, most + 1, Integer.MIN_VALUE, Integer.MAX_VALUE}) {
            due(name + " " + n, call.applyAsLong(n), bad);
        }
    }

    void dueRange(String name, int least, int most, IntPredicate call) {
        dueRange(name, least, most, 1, 0, n -> call.test(n) ? 1 : 0);
    }

    /** What look(s, 0..9) is to answer, in this order. */
    void dueLook(BargeBourse x, int s, long... want) {
        for (int what = 0; what < want.length; what++) {
            due("hour " + x.count(0) + ", look(" + s + ", " + what + ")", x.look(s, what), want[what]);
        }
    }

    void dueTold(BargeBourse x, int c, long... want) {
        for (int what = 0; what < want.length; what++) {
            due("hour " + x.count(0) + ", told(" + c + ", " + what + ")", x.told(c, what), want[what]);
        }
    }

    void dueCalled(BargeBourse x, int t, long... want) {
        for (int what = 0; what < want.length; what++) {
            due("hour " + x.count(0) + ", called(" + t + ", " + what + ")", x.called(t, what), want[what]);
        }
    }

    void dueList(BargeBourse x, int t, long... want) {
        for (int i = 0; i < want.length; i++) {
            due("hour " + x.count(0) + ", list(" + t + ", " + i + ")", x.list(t, i), want[i]);
        }
        due("hour " + x.count(0) + ", list(" + t + ", " + want.length + ")",
                x.list(t, want.length), BargeBourse.NONE);
    }

    void dueWay(BargeBourse x, int s, int c, long hours, long... want) {
        due("can(" + s + ", " + c + ")", x.can(s, c), hours);
        for (int i = 0; i < want.length; i++) {
            due("way(" + s + ", " + c + ", " + i + ")", x.way(s, c, i), want[i]);
        }
        due("way(" + s + ", " + c + ", -1)", x.way(s, c, -1), BargeBourse.NONE);
        due("way(" + s + ", " + c + ", " + want.length + ")",
                x.way(s, c, want.length), BargeBourse.NONE);
    }

    void end() {
        System.out.println(name + ": " + asked + " answers, " + wrong + " wrong");
        if (wrong != 0) {
            System.exit(1);
        }
    }

    static int[] ints(byte[] bytes, int from) {
        int[] five = new int[5];
        for (int i = 0; i < 20; i++) {
            int sign = from + i < bytes.length ? bytes[from + i] & 255 : ' ';
            five[i / 4] = five[i / 4] << 8 | sign;
        }
        return five;
    }

    static int feed(BargeBourse x, String text) {
        byte[] bytes = text.getBytes(StandardCharsets.ISO_8859_1);
        int length = x.count(8);
        for (int from = 0; from < bytes.length; from += 20) {
            int[] five = ints(bytes, from);
            length = x.feed(five[0], five[1], five[2], five[3], five[4]);
        }
        return length;
    }

    static int law(BargeBourse x, String text) {
        feed(x, text);
        return x.law(text.length());
    }
}
