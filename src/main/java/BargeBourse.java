import java.util.ArrayList;
import java.util.Arrays;

/**
 * A barge bourse: skippers who draw cargoes by turns under a law told as a text, and the journeys
 * that bring these cargoes through locks to a berth.
 */
public final class BargeBourse {
    public static final int NONE = -1;

    private static final int TOWNS = 8;
    private static final int MOST_BERTHS = 4;
    private static final int MOST_CANALS = 12;
    private static final int MOST_SAILING_HOURS = 48;
    private static final int MOST_DEPTH = 500;
    private static final int MOST_LOCK_HOURS = 12;
    private static final int MOST_SKIPPERS = 16;
    private static final int MOST_EMPTY_DRAUGHT = 300;
    private static final int MOST_TONS_A_CENTIMETRE = 20;
    private static final int ALL_KINDS = 7;
    private static final int LAST_KIND = 2;
    private static final int MOST_WISH = 1000;
    private static final int ALL_TOWNS = 255;
    private static final int MOST_CARGOES = 60;
    private static final int MOST_TONS = 600;
    private static final int MOST_PENCE = 100000;
    private static final int MOST_STEPS = 200;

    private static final int OFF = 0;
    private static final int SIGNED = 1;
    private static final int LOADING = 2;
    private static final int AWAITING_CANAL = 3;
    private static final int SAILING = 4;
    private static final int AWAITING_BERTH = 5;
    private static final int UNLOADING = 6;

    private static final int WAITS = 0;
    private static final int ON_BARGE = 1;
    private static final int BROUGHT = 2;

    private final Tape tape;
    private final Law law;
    private final Waters waters;
    private final Hall[] halls;
    private final ArrayList<Barge> barges;
    private final ArrayList<Cargo> cargoes;
    private final Asking asking;
    private final Sharing sharing;
    private int hour;

    public BargeBourse() {
        tape = new Tape();
        law = new Law();
        waters = new Waters();
        halls = new Hall[TOWNS];
        for (int t = 0; t < TOWNS; t++) {
            halls[t] = new Hall(t);
        }
        barges = new ArrayList<>();
        cargoes = new ArrayList<>();
        asking = new Asking();
        sharing = new Sharing();
        hour = 0;
    }

    public int feed(int a, int b, int c, int d, int e) {
        if (!tape.hasRoom()) {
            return NONE;
        }
        tape.append(a);
        tape.append(b);
        tape.append(c);
        tape.append(d);
        tape.append(e);
        return tape.length;
    }

    public int law(int n) {
        if (!isWithin(n, 0, tape.length)) {
            return NONE;
        }
        int fault = law.read(tape, n);
        tape.length = 0;
        return fault;
    }

    public int clause(int what) {
        return law.number(what);
    }

    public boolean town(int t, int berths) {
        if (!isTown(t) || !isWithin(berths, 1, MOST_BERTHS)) {
            return false;
        }
        halls[t].berths = berths;
        return true;
    }

    public int canal(int a, int b, int hours, int depth, int lock) {
        if (!areTwoTowns(a, b) || waters.canals.size() >= MOST_CANALS
                || !isWithin(hours, 1, MOST_SAILING_HOURS)
                || !isWithin(depth, 0, MOST_DEPTH)
                || !isWithin(lock, 0, MOST_LOCK_HOURS)) {
            return NONE;
        }
        return waters.dig(new Canal(a, b, hours, depth, lock));
    }

    public boolean depth(int c, int cm) {
        if (!waters.hasCanal(c) || !isWithin(cm, 0, MOST_DEPTH)) {
            return false;
        }
        waters.fill(c, cm);
        return true;
    }

    public int skipper(int hold, int empty, int tons, int kinds) {
        if (barges.size() >= MOST_SKIPPERS
                || !isWithin(hold, 1, MOST_TONS)
                || !isWithin(empty, 1, MOST_EMPTY_DRAUGHT)
                || !isWithin(tons, 1, MOST_TONS_A_CENTIMETRE)
                || !isWithin(kinds, 1, ALL_KINDS)) {
            return NONE;
        }
        int number = barges.size();
        barges.add(new Barge(number, hold, empty, tons, kinds));
        return number;
    }

    public boolean wants(int s, int pence, int towns) {
        if (!hasBarge(s) || !isWithin(pence, 0, MOST_WISH) || !isWithin(towns, 0, ALL_TOWNS)) {
            return false;
        }
        Barge barge = barges.get(s);
        barge.wish = pence;
        barge.refused = towns;
        return true;
    }

    public int sign(int s, int t) {
        if (!hasBarge(s) || !isTown(t)) {
            return NONE;
        }
        Barge barge = barges.get(s);
        if (barge.state != OFF) {
            return NONE;
        }
        return halls[t].enlist(barge);
    }

    public boolean leave(int s) {
        if (!hasBarge(s)) {
            return false;
        }
        Barge barge = barges.get(s);
        if (barge.state != SIGNED || !isTown(barge.town)) {
            return false;
        }
        halls[barge.town].strike(barge);
        barge.state = OFF;
        barge.town = NONE;
        return true;
    }

    public int cargo(int from, int to, int tons, int kind, int pence) {
        if (!areTwoTowns(from, to) || cargoes.size() >= MOST_CARGOES
                || !isWithin(tons, 1, MOST_TONS)
                || !isWithin(kind, 0, LAST_KIND)
                || !isWithin(pence, 0, MOST_PENCE)) {
            return NONE;
        }
        int number = cargoes.size();
        Cargo cargo = new Cargo(number, from, to, tons, kind, pence);
        cargoes.add(cargo);
        halls[from].waiting.add(cargo);
        return number;
    }

    public int step(int n) {
        if (!isWithin(n, 1, MOST_STEPS)) {
            return NONE;
        }
        for (int i = 0; i < n; i++) {
            hour++;
            if (isCallHour()) {
                for (int t = 0; t < TOWNS; t++) {
                    holdCall(halls[t]);
                }
            }
            for (int s = 0; s < barges.size(); s++) {
                moveOn(barges.get(s));
            }
        }
        return hour;
    }

    public long look(int s, int what) {
        if (!hasBarge(s)) {
            return NONE;
        }
        Barge barge = barges.get(s);
        switch (what) {
            case 0: return barge.state;
            case 1: return barge.town;
            case 2: return placeInList(barge);
            case 3: return barge.passes;
            case 4: return barge.load == null ? NONE : barge.load.number;
            case 5: return barge.left;
            case 6: return barge.waited;
            case 7: return barge.money;
            case 8: return barge.shownCanal();
            case 9: return barge.draught();
            default: return NONE;
        }
    }

    public int told(int c, int what) {
        if (!hasCargo(c)) {
            return NONE;
        }
        Cargo cargo = cargoes.get(c);
        switch (what) {
            case 0: return cargo.state;
            case 1: return cargo.taker;
            case 2: return cargo.takenHour;
            case 3: return cargo.broughtHour;
            case 4: return cargo.unwilling;
            default: return NONE;
        }
    }

    public int can(int s, int c) {
        if (!hasBarge(s) || !hasCargo(c)) {
            return NONE;
        }
        return waters.seekWay(barges.get(s), cargoes.get(c));
    }

    public int way(int s, int c, int i) {
        if (!hasBarge(s) || !hasCargo(c)) {
            return NONE;
        }
        waters.seekWay(barges.get(s), cargoes.get(c));
        return waters.foundCanal(i);
    }

    public int list(int t, int i) {
        if (!isTown(t)) {
            return NONE;
        }
        ArrayList<Barge> signed = halls[t].signed;
        return isWithin(i, 0, signed.size() - 1) ? signed.get(i).number : NONE;
    }

    public long called(int t, int what) {
        if (!isTown(t) || halls[t].callHour == NONE) {
            return NONE;
        }
        Hall hall = halls[t];
        switch (what) {
            case 0: return hall.callHour;
            case 1: return hall.callCargoes;
            case 2: return hall.callTaken;
            case 3: return hall.callPence;
            case 4: return hall.callBest;
            default: return NONE;
        }
    }

    public long best(int t) {
        return isTown(t) ? bestSharing(halls[t]) : NONE;
    }

    public int count(int what) {
        switch (what) {
            case 0: return hour;
            case 1: return waters.canals.size();
            case 2: return barges.size();
            case 3: return cargoes.size();
            case 4: return cargoesThat(WAITS);
            case 5: return cargoesThat(ON_BARGE);
            case 6: return cargoesThat(BROUGHT);
            case 7: return signedBarges();
            case 8: return tape.length;
            default: return NONE;
        }
    }

    private static boolean isWithin(int number, int least, int most) {
        return number >= least && number <= most;
    }

    private static boolean isTown(int t) {
        return t >= 0 && t < TOWNS;
    }

    private static boolean areTwoTowns(int a, int b) {
        return a >= 0 && a < TOWNS && b >= 0 && b < TOWNS && a != b;
    }

    private static int dividedUp(int amount, int by) {
        return by < 1 ? 0 : (amount + by - 1) / by;
    }

    private boolean hasBarge(int s) {
        return isWithin(s, 0, barges.size() - 1);
    }

    private boolean hasCargo(int c) {
        return isWithin(c, 0, cargoes.size() - 1);
    }

    private int placeInList(Barge barge) {
        if (barge.state != SIGNED || !isTown(barge.town)) {
            return NONE;
        }
        return halls[barge.town].placeOf(barge);
    }

    private int cargoesThat(int state) {
        int sum = 0;
        for (int c = 0; c < cargoes.size(); c++) {
            if (cargoes.get(c).state == state) {
                sum++;
            }
        }
        return sum;
    }

    private int signedBarges() {
        int sum = 0;
        for (int t = 0; t < TOWNS; t++) {
            sum += halls[t].signed.size();
        }
        return sum;
    }

    private boolean isCallHour() {
        int each = law.number(Law.CALL);
        return each > 0 && hour % each == 0;
    }

    private void holdCall(Hall hall) {
        hall.openCall(hour, bestSharing(hall));
        int place = 0;
        for (int i = 0; i < hall.callCargoes && place < hall.waiting.size(); i++) {
            Cargo cargo = hall.waiting.get(place);
            askInTurn(hall, cargo);
            Barge taker = asking.taker;
            if (taker == null) {
                place++;
            } else {
                hall.giveAway(place, taker);
                beginJourney(taker, cargo);
            }
            // Only now, so that nobody is asked twice for one cargo.
            hall.sendToEnd(asking.weary);
        }
    }

    private void askInTurn(Hall hall, Cargo cargo) {
        asking.begin();
        for (int i = 0; i < hall.signed.size() && asking.taker == null; i++) {
            Barge barge = hall.signed.get(i);
            if (!waters.letPass(barge, cargo)) {
                continue;
            }
            if (barge.likes(cargo)) {
                asking.taker = barge;
            } else {
                asking.pass(barge, law.number(Law.PASSES));
            }
        }
    }

    private void beginJourney(Barge barge, Cargo cargo) {
        waters.seekWay(barge, cargo);
        barge.keepWay(waters.found, waters.foundLength);
        barge.load = cargo;
        barge.state = LOADING;
        barge.left = handlingHours(cargo);
        cargo.state = ON_BARGE;
        cargo.taker = barge.number;
        cargo.takenHour = hour;
        cargo.unwilling = asking.unwilling;
    }

    private int handlingHours(Cargo cargo) {
        return dividedUp(cargo.tons, law.number(Law.HANDLING));
    }

    private void moveOn(Barge barge) {
        Cargo load = barge.load;
        if (load == null) {
            return;
        }
        switch (barge.state) {
            case LOADING:
                if (barge.endsHour()) {
                    barge.state = AWAITING_CANAL;
                }
                break;
            case AWAITING_CANAL:
                enterCanal(barge);
                break;
            case SAILING:
                if (barge.endsHour()) {
                    arrive(barge);
                }
                break;
            case AWAITING_BERTH:
                enterBerth(barge, load);
                break;
            case UNLOADING:
                if (barge.endsHour()) {
                    endJourney(barge, load);
                }
                break;
            default:
                break;
        }
    }

    private void enterCanal(Barge barge) {
        int c = barge.nextCanal();
        if (!waters.hasCanal(c)) {
            return;
        }
        Canal canal = waters.canals.get(c);
        if (canal.depth < barge.draught() || !canal.isLockFree(hour)) {
            return;
        }
        canal.wentInHour = hour;
        barge.state = SAILING;
        barge.left = canal.passage;
        barge.town = canal.otherEnd(barge.town);
    }

    private void arrive(Barge barge) {
        barge.wayDone++;
        barge.state = barge.nextCanal() == NONE ? AWAITING_BERTH : AWAITING_CANAL;
    }

    private void enterBerth(Barge barge, Cargo load) {
        if (isTown(load.to) && unloadingAt(load.to) < halls[load.to].berths) {
            barge.state = UNLOADING;
            barge.left = handlingHours(load);
        } else {
            barge.waited++;
        }
    }

    private int unloadingAt(int town) {
        int sum = 0;
        for (int s = 0; s < barges.size(); s++) {
            Barge barge = barges.get(s);
            if (barge.state == UNLOADING && barge.town == town) {
                sum++;
            }
        }
        return sum;
    }

    private void endJourney(Barge barge, Cargo load) {
        barge.money += load.pence + demurrage(barge.waited);
        load.state = BROUGHT;
        load.broughtHour = hour;
        barge.load = null;
        barge.waited = 0;
        if (isTown(load.to)) {
            halls[load.to].enlist(barge);
        }
    }

    private long demurrage(int waited) {
        long hours = Math.max(0, waited - law.number(Law.FREE_HOURS));
        return hours * law.number(Law.DEMURRAGE);
    }

    private long bestSharing(Hall hall) {
        if (hall.waiting.isEmpty() || hall.signed.isEmpty()) {
            return 0;
        }
        sharing.begin();
        for (int i = 0; i < hall.waiting.size() && i < Sharing.MOST_SHARED; i++) {
            Cargo cargo = hall.waiting.get(i);
            sharing.lay(cargo.pence, carriersOf(hall, cargo));
        }
        return sharing.greatest();
    }

    private int carriersOf(Hall hall, Cargo cargo) {
        int carriers = 0;
        for (int i = 0; i < hall.signed.size() && i < MOST_SKIPPERS; i++) {
            if (waters.letPass(hall.signed.get(i), cargo)) {
                carriers |= 1 << i;
            }
        }
        return carriers;
    }

    /** The bytes that were fed and not yet read as a law. */
    private static final class Tape {
        static final int CAPACITY = 60;
        static final int FED_AT_ONCE = 20;

        final byte[] bytes;
        int length;

        Tape() {
            bytes = new byte[CAPACITY];
            length = 0;
        }

        boolean hasRoom() {
            return length <= CAPACITY - FED_AT_ONCE;
        }

        void append(int four) {
            for (int shift = 24; shift >= 0; shift -= 8) {
                if (isWithin(length, 0, CAPACITY - 1)) {
                    bytes[length] = (byte) (four >> shift);
                    length++;
                }
            }
        }

        int at(int place) {
            return isWithin(place, 0, length - 1) && place < CAPACITY ? bytes[place] & 255 : NONE;
        }
    }

    /** The five numbers that the law tells, and the reading of a text that tells them. */
    private static final class Law {
        static final int CALL = 0;
        static final int PASSES = 1;
        static final int HANDLING = 2;
        static final int FREE_HOURS = 3;
        static final int DEMURRAGE = 4;

        private static final int CLAUSES = 5;
        private static final String LETTERS = "cpufd";
        private static final int[] AT_FIRST = {24, 2, 50, 6, 10};
        private static final int[] LEAST = {1, 0, 1, 0, 0};
        private static final int[] MOST = {999, 9, 9999, 999, 9999};
        private static final int MOST_DIGITS = 4;

        private static final int NO_LETTER = 100;
        private static final int NO_DIGIT = 200;
        private static final int WRONG_NUMBER = 300;
        private static final int NO_END = 400;

        private final int[] numbers;
        private final int[] draft;
        private int place;

        Law() {
            numbers = AT_FIRST.clone();
            draft = new int[CLAUSES];
            place = 0;
        }

        int number(int what) {
            return isWithin(what, 0, CLAUSES - 1) ? numbers[what] : NONE;
        }

        /** Answers 0 or the first fault; a text with a fault leaves the law as it was. */
        int read(Tape tape, int n) {
            System.arraycopy(AT_FIRST, 0, draft, 0, CLAUSES);
            place = 0;
            int fault = readClause(tape, n);
            for (int i = 0; i < Tape.CAPACITY && fault == 0 && place < n; i++) {
                place++;
                fault = readClause(tape, n);
            }
            if (fault == 0) {
                System.arraycopy(draft, 0, numbers, 0, CLAUSES);
            }
            return fault;
        }

        /** Reads one clause and leaves the place at the end or at the ; behind it. */
        private int readClause(Tape tape, int n) {
            int letter = letterAt(tape, n);
            if (!isWithin(letter, 0, CLAUSES - 1)) {
                return NO_LETTER + place;
            }
            place++;
            int first = place;
            int number = 0;
            while (place < n && place - first <= MOST_DIGITS && isDigit(tape.at(place))) {
                number = number * 10 + tape.at(place) - '0';
                place++;
            }
            int digits = place - first;
            if (digits == 0) {
                return NO_DIGIT + first;
            }
            if (digits > MOST_DIGITS || !isWithin(number, LEAST[letter], MOST[letter])) {
                return WRONG_NUMBER + first;
            }
            if (place < n && tape.at(place) != ';') {
                return NO_END + place;
            }
            draft[letter] = number;
            return 0;
        }

        private int letterAt(Tape tape, int n) {
            int sign = place < n ? tape.at(place) : NONE;
            for (int i = 0; i < LETTERS.length(); i++) {
                if (LETTERS.charAt(i) == sign) {
                    return i;
                }
            }
            return NONE;
        }

        private static boolean isDigit(int sign) {
            return isWithin(sign, '0', '9');
        }
    }

    /** A canal between two towns, and the hour in which a barge last went in. */
    private static final class Canal {
        final int oneEnd;
        final int farEnd;
        final int lock;
        final int passage;
        int depth;
        int wentInHour;

        Canal(int oneEnd, int farEnd, int hours, int depth, int lock) {
            this.oneEnd = oneEnd;
            this.farEnd = farEnd;
            this.lock = lock;
            this.passage = hours + lock;
            this.depth = depth;
            // Before any hour in which a lock could still be held.
            this.wentInHour = -MOST_LOCK_HOURS;
        }

        int otherEnd(int town) {
            if (town == oneEnd) {
                return farEnd;
            }
            return town == farEnd ? oneEnd : NONE;
        }

        boolean isLockFree(int hour) {
            return hour - wentInHour >= lock;
        }
    }

    /** All canals: who can pass from where to where, and by which way. */
    private static final class Waters {
        // A way's weight is its hours times this and its canals, so that of like hours fewer canals win.
        private static final int HOUR_WEIGHT = 16;
        private static final int UNREACHED = 1 << 20;

        final ArrayList<Canal> canals;
        final int[] found;
        int foundLength;
        // For each two towns the deepest draught that some row of canals lets through: asking who
        // can carry a cargo is far more frequent than a change of depth.
        private final int[] clearance;
        private final int[] weightLeft;

        Waters() {
            canals = new ArrayList<>();
            found = new int[TOWNS];
            foundLength = 0;
            clearance = new int[TOWNS * TOWNS];
            weightLeft = new int[TOWNS];
        }

        boolean hasCanal(int c) {
            return isWithin(c, 0, canals.size() - 1);
        }

        int dig(Canal canal) {
            canals.add(canal);
            sound();
            return canals.size() - 1;
        }

        void fill(int c, int cm) {
            if (hasCanal(c)) {
                canals.get(c).depth = cm;
                sound();
            }
        }

        boolean letPass(Barge barge, Cargo cargo) {
            return barge.holds(cargo) && areTwoTowns(cargo.from, cargo.to)
                    && clearance[cargo.from * TOWNS + cargo.to] >= barge.draughtWith(cargo);
        }

        int foundCanal(int i) {
            return isWithin(i, 0, foundLength - 1) && i < TOWNS ? found[i] : NONE;
        }

        /** Finds the way of a barge with a cargo: its hours, or 0 and no way if it can't carry it. */
        int seekWay(Barge barge, Cargo cargo) {
            foundLength = 0;
            if (!letPass(barge, cargo)) {
                return 0;
            }
            int draught = barge.draughtWith(cargo);
            weighFrom(cargo.to, draught);
            followLeast(cargo.from, cargo.to, draught);
            return weightLeft[cargo.from] / HOUR_WEIGHT;
        }

        private void sound() {
            Arrays.fill(clearance, 0);
            for (int c = 0; c < canals.size(); c++) {
                Canal canal = canals.get(c);
                widen(canal.oneEnd, canal.farEnd, canal.depth);
                widen(canal.farEnd, canal.oneEnd, canal.depth);
            }
            for (int by = 0; by < TOWNS; by++) {
                for (int a = 0; a < TOWNS; a++) {
                    for (int b = 0; b < TOWNS; b++) {
                        widen(a, b, Math.min(clearance[a * TOWNS + by], clearance[by * TOWNS + b]));
                    }
                }
            }
        }

        private void widen(int a, int b, int depth) {
            if (isTown(a) && isTown(b)) {
                clearance[a * TOWNS + b] = Math.max(clearance[a * TOWNS + b], depth);
            }
        }

        private void weighFrom(int goal, int draught) {
            Arrays.fill(weightLeft, UNREACHED);
            if (isTown(goal)) {
                weightLeft[goal] = 0;
            }
            boolean changed = true;
            for (int round = 0; round < TOWNS && changed; round++) {
                changed = false;
                for (int c = 0; c < canals.size(); c++) {
                    Canal canal = canals.get(c);
                    if (canal.depth >= draught && lighten(canal)) {
                        changed = true;
                    }
                }
            }
        }

        private boolean lighten(Canal canal) {
            if (!areTwoTowns(canal.oneEnd, canal.farEnd)) {
                return false;
            }
            int weight = canal.passage * HOUR_WEIGHT + 1;
            if (weightLeft[canal.farEnd] + weight < weightLeft[canal.oneEnd]) {
                weightLeft[canal.oneEnd] = weightLeft[canal.farEnd] + weight;
                return true;
            }
            if (weightLeft[canal.oneEnd] + weight < weightLeft[canal.farEnd]) {
                weightLeft[canal.farEnd] = weightLeft[canal.oneEnd] + weight;
                return true;
            }
            return false;
        }

        private void followLeast(int from, int goal, int draught) {
            int town = from;
            while (town != goal && foundLength < TOWNS) {
                int c = leastCanalOn(town, draught);
                if (!hasCanal(c)) {
                    return;
                }
                found[foundLength] = c;
                foundLength++;
                town = canals.get(c).otherEnd(town);
            }
        }

        /** The lowest canal with which a lightest way goes on from a town. */
        private int leastCanalOn(int town, int draught) {
            if (!isTown(town)) {
                return NONE;
            }
            for (int c = 0; c < canals.size(); c++) {
                Canal canal = canals.get(c);
                int next = canal.otherEnd(town);
                int weight = canal.passage * HOUR_WEIGHT + 1;
                if (canal.depth >= draught && isTown(next)
                        && weightLeft[town] == weightLeft[next] + weight) {
                    return c;
                }
            }
            return NONE;
        }
    }

    /** A skipper with the barge, and the journey that it is on. */
    private static final class Barge {
        final int number;
        final int hold;
        final int empty;
        final int tonsACentimetre;
        final int kinds;
        int wish;
        int refused;
        int state;
        int town;
        int passes;
        Cargo load;
        int left;
        int waited;
        long money;
        final int[] route;
        int routeLength;
        int wayDone;

        Barge(int number, int hold, int empty, int tonsACentimetre, int kinds) {
            this.number = number;
            this.hold = hold;
            this.empty = empty;
            this.tonsACentimetre = tonsACentimetre;
            this.kinds = kinds;
            this.state = OFF;
            this.town = NONE;
            this.load = null;
            this.route = new int[TOWNS];
        }

        boolean holds(Cargo cargo) {
            return ((kinds >> cargo.kind) & 1) != 0 && cargo.tons <= hold;
        }

        boolean likes(Cargo cargo) {
            return cargo.pence >= wish * cargo.tons && ((refused >> cargo.to) & 1) == 0;
        }

        int draughtWith(Cargo cargo) {
            return empty + dividedUp(cargo.tons, tonsACentimetre);
        }

        int draught() {
            return load == null ? empty : draughtWith(load);
        }

        void keepWay(int[] canals, int length) {
            routeLength = Math.min(length, Math.min(canals.length, route.length));
            System.arraycopy(canals, 0, route, 0, routeLength);
            wayDone = 0;
        }

        int nextCanal() {
            return isWithin(wayDone, 0, routeLength - 1) ? route[wayDone] : NONE;
        }

        int shownCanal() {
            return state == AWAITING_CANAL || state == SAILING ? nextCanal() : NONE;
        }

        boolean endsHour() {
            left--;
            return left == 0;
        }
    }

    /** A cargo, and what became of it. */
    private static final class Cargo {
        final int number;
        final int from;
        final int to;
        final int tons;
        final int kind;
        final int pence;
        int state;
        int taker;
        int takenHour;
        int broughtHour;
        int unwilling;

        Cargo(int number, int from, int to, int tons, int kind, int pence) {
            this.number = number;
            this.from = from;
            this.to = to;
            this.tons = tons;
            this.kind = kind;
            this.pence = pence;
            this.state = WAITS;
            this.taker = NONE;
            this.takenHour = NONE;
            this.broughtHour = NONE;
            this.unwilling = NONE;
        }
    }

    /** A town: who has signed in its hall, which cargoes wait, and its latest call. */
    private static final class Hall {
        final int town;
        final ArrayList<Barge> signed;
        final ArrayList<Cargo> waiting;
        int berths;
        int callHour;
        int callCargoes;
        int callTaken;
        long callPence;
        long callBest;

        Hall(int town) {
            this.town = town;
            signed = new ArrayList<>();
            waiting = new ArrayList<>();
            berths = 1;
            callHour = NONE;
        }

        int enlist(Barge barge) {
            barge.state = SIGNED;
            barge.town = town;
            barge.passes = 0;
            signed.add(barge);
            return signed.size();
        }

        int placeOf(Barge barge) {
            for (int i = 0; i < signed.size(); i++) {
                if (signed.get(i) == barge) {
                    return i + 1;
                }
            }
            return NONE;
        }

        void strike(Barge barge) {
            int place = placeOf(barge);
            if (isWithin(place, 1, signed.size())) {
                signed.remove(place - 1);
            }
        }

        void openCall(int hour, long best) {
            callHour = hour;
            callBest = best;
            callCargoes = waiting.size();
            callTaken = 0;
            callPence = 0;
        }

        void giveAway(int place, Barge taker) {
            if (isWithin(place, 0, waiting.size() - 1)) {
                callTaken++;
                callPence += waiting.get(place).pence;
                waiting.remove(place);
                strike(taker);
            }
        }

        void sendToEnd(ArrayList<Barge> weary) {
            for (int i = 0; i < weary.size(); i++) {
                Barge barge = weary.get(i);
                strike(barge);
                signed.add(barge);
                barge.passes = 0;
            }
        }
    }

    /** What came of asking a list for one cargo. */
    private static final class Asking {
        final ArrayList<Barge> weary;
        Barge taker;
        int unwilling;

        Asking() {
            weary = new ArrayList<>();
            taker = null;
            unwilling = 0;
        }

        void begin() {
            weary.clear();
            taker = null;
            unwilling = 0;
        }

        void pass(Barge barge, int allowed) {
            unwilling++;
            barge.passes++;
            if (barge.passes > allowed) {
                weary.add(barge);
            }
        }
    }

    /** The greatest sum of pence when each barge of a list is given one cargo at most. */
    private static final class Sharing {
        static final int MOST_SHARED = 10;

        private final int[] pence;
        private final int[] carriers;
        private final int[] bargeOf;
        private final int[] cargoOf;
        // The search for a barge: the cargoes that seek one, and which of them asked each barge.
        private final int[] seekers;
        private final int[] askedBy;
        private int laid;
        private int tried;

        Sharing() {
            pence = new int[MOST_SHARED];
            carriers = new int[MOST_SHARED];
            bargeOf = new int[MOST_SHARED];
            cargoOf = new int[MOST_SKIPPERS];
            seekers = new int[MOST_SKIPPERS + 1];
            askedBy = new int[MOST_SKIPPERS];
        }

        void begin() {
            laid = 0;
            tried = 0;
            Arrays.fill(bargeOf, NONE);
            Arrays.fill(cargoOf, NONE);
        }

        /** Carriers are bits, one for each place of the list. */
        void lay(int pence, int carriers) {
            if (isWithin(laid, 0, MOST_SHARED - 1)) {
                this.pence[laid] = pence;
                this.carriers[laid] = carriers;
                laid++;
            }
        }

        /**
         * The pence hang on the cargo alone, not on who carries it; therefore it is enough to take
         * the dearest cargo first and keep each that still finds a barge, moving others if need be.
         */
        long greatest() {
            long sum = 0;
            for (int i = 0; i < laid; i++) {
                int dearest = dearestUntried();
                if (!isWithin(dearest, 0, MOST_SHARED - 1)) {
                    return sum;
                }
                tried |= 1 << dearest;
                if (findsBarge(dearest)) {
                    sum += pence[dearest];
                }
            }
            return sum;
        }

        private int dearestUntried() {
            int dearest = NONE;
            for (int c = 0; c < laid && c < MOST_SHARED; c++) {
                if (((tried >> c) & 1) == 0 && (dearest == NONE || pence[c] > pence[dearest])) {
                    dearest = c;
                }
            }
            return dearest;
        }

        /** Each barge that is asked and not free sends the cargo that it has to seek another one. */
        private boolean findsBarge(int cargo) {
            int asked = 0;
            int seeking = 1;
            seekers[0] = cargo;
            for (int i = 0; i < seeking && i < seekers.length; i++) {
                int seeker = seekers[i];
                for (int b = 0; b < MOST_SKIPPERS; b++) {
                    if (!isWithin(seeker, 0, MOST_SHARED - 1)
                            || (carriers[seeker] & ~asked & (1 << b)) == 0) {
                        continue;
                    }
                    asked |= 1 << b;
                    askedBy[b] = seeker;
                    if (cargoOf[b] == NONE) {
                        moveChain(b);
                        return true;
                    }
                    if (seeking < seekers.length) {
                        seekers[seeking] = cargoOf[b];
                        seeking++;
                    }
                }
            }
            return false;
        }

        /** Gives a free barge to who asked it, the barge of that one to who asked for it, and so on. */
        private void moveChain(int free) {
            int barge = free;
            for (int i = 0; i < MOST_SKIPPERS && isWithin(barge, 0, MOST_SKIPPERS - 1); i++) {
                int cargo = askedBy[barge];
                if (!isWithin(cargo, 0, MOST_SHARED - 1)) {
                    return;
                }
                int before = bargeOf[cargo];
                bargeOf[cargo] = barge;
                cargoOf[barge] = cargo;
                barge = before;
            }
        }
    }
}
