/**
 * A bourse in full work after few calls: skipper s is in state s (0 off, 1 signed, 2 loading,
 * 3 waiting for a canal, 4 sailing, 5 waiting for a berth, 6 unloading), and 20 bytes are on the tape.
 */
final class Busy {
    static final int CANALS = 4;
    static final int SKIPPERS = 7;
    static final int CARGOES = 6;
    static final int TAPE = 20;
    /** How many calls it has had when it is handed out. */
    static final int CALLS = 45;

    private Busy() {
    }

    static BargeBourse make() {
        BargeBourse x = new BargeBourse();
        Check.law(x, "c1;p3;u600;f0;d7");
        x.canal(0, 1, 1, 500, 0);
        x.canal(0, 2, 48, 500, 12);
        x.canal(0, 3, 1, 100, 1);
        x.canal(3, 4, 2, 50, 0);
        for (int s = 0; s < SKIPPERS; s++) {
            x.skipper(600, 10, 20, 7);
        }
        begin(x, 6, 1, 600);
        begin(x, 5, 1, 600);
        x.step(1);
        Check.law(x, "c1;p3;u10;f0;d7");
        x.step(1);
        begin(x, 4, 2, 10);
        begin(x, 3, 3, 10);
        x.depth(2, 0);
        x.wants(0, 5, 32);
        x.wants(1, 1000, 0);
        x.sign(0, 3);
        x.cargo(3, 4, 10, 1, 49);
        x.step(1);
        x.leave(0);
        x.sign(1, 3);
        x.step(1);
        begin(x, 2, 1, 600);
        Check.feed(x, "c5;p1;u70;f8;d900 xx");
        return x;
    }

    /** The skipper takes a new cargo in the next hour. */
    private static void begin(BargeBourse x, int s, int to, int tons) {
        x.sign(s, 0);
        x.cargo(0, to, tons, 0, 1000 * s);
        x.step(1);
    }
}
