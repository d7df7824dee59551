import java.util.ArrayList;
import java.util.Comparator;
import java.util.List;
import java.util.Map;
import java.util.TreeMap;
import java.util.regex.Matcher;
import java.util.regex.Pattern;

/**
 * The document once more, in another way: all ways and all sharings are tried out, texts are read by
 * patterns, nothing is kept that can be found anew. Slow, and only there to be compared with.
 */
final class PlainBourse {
    private static final int NONE = -1;

    private record Canal(int a, int b, int hours, int lock) { }

    private record Way(int hours, List<Integer> canals) { }

    private enum State { OFF, SIGNED, LOADING, FOR_CANAL, SAILING, FOR_BERTH, UNLOADING }

    private static final class Skipper {
        int hold, empty, tons, kinds, wish, refused, passes, cargo = NONE, at = NONE, left, waited;
        long money;
        State state = State.OFF;
        List<Integer> ahead = new ArrayList<>();
    }

    private static final class Cargo {
        int from, to, tons, kind, pence, taker = NONE, taken = NONE, brought = NONE, refusals = NONE;
    }

    private final List<Canal> canals = new ArrayList<>();
    private final List<Integer> depths = new ArrayList<>();
    private final List<List<Integer>> entries = new ArrayList<>();
    private final List<Skipper> skippers = new ArrayList<>();
    private final List<Cargo> cargoes = new ArrayList<>();
    private final List<List<Integer>> lists = new ArrayList<>();
    private final int[] berths = new int[8];
    private final long[][] calls = new long[8][];
    private Map<Character, Integer> law = lawAtFirst();
    private String tape = "";
    private int hour = 0;

    PlainBourse() {
        for (int t = 0; t < 8; t++) {
            lists.add(new ArrayList<>());
            berths[t] = 1;
        }
    }

    private static Map<Character, Integer> lawAtFirst() {
        return new TreeMap<>(Map.of('c', 24, 'p', 2, 'u', 50, 'f', 6, 'd', 10));
    }

    private static boolean in(int x, int least, int most) {
        return least <= x && x <= most;
    }

    int feed(int... five) {
        if (tape.length() + 20 > 60) {
            return NONE;
        }
        StringBuilder more = new StringBuilder(tape);
        for (int four : five) {
            more.append((char) (four >>> 24)).append((char) (four >>> 16 & 255));
            more.append((char) (four >>> 8 & 255)).append((char) (four & 255));
        }
        tape = more.toString();
        return tape.length();
    }

    int law(int n) {
        if (!in(n, 0, tape.length())) {
            return NONE;
        }
        String text = tape.substring(0, n);
        tape = "";
        Map<Character, Integer> told = lawAtFirst();
        int place = 0;
        for (String clause : text.split(";", -1)) {
            int fault = faultOf(clause, place, told);
            if (fault != 0) {
                return fault;
            }
            place += clause.length() + 1;
        }
        law = told;
        return 0;
    }

    private static int faultOf(String clause, int place, Map<Character, Integer> told) {
        Matcher m = Pattern.compile("([cpufd]?)([0-9]*)(.*)", Pattern.DOTALL).matcher(clause);
        if (!m.matches() || m.group(1).isEmpty()) {
            return 100 + place;
        }
        String digits = m.group(2);
        if (digits.isEmpty()) {
            return 201 + place;
        }
        char letter = m.group(1).charAt(0);
        int number = digits.length() > 4 ? -1 : Integer.parseInt(digits);
        int least = letter == 'c' || letter == 'u' ? 1 : 0;
        int most = letter == 'p' ? 9 : letter == 'c' || letter == 'f' ? 999 : 9999;
        if (!in(number, least, most)) {
            return 301 + place;
        }
        if (!m.group(3).isEmpty()) {
            return 401 + place + digits.length();
        }
        told.put(letter, number);
        return 0;
    }

    int clause(int what) {
        return in(what, 0, 4) ? law.get("cpufd".charAt(what)) : NONE;
    }

    boolean town(int t, int n) {
        if (!in(t, 0, 7) || !in(n, 1, 4)) {
            return false;
        }
        berths[t] = n;
        return true;
    }

    int canal(int a, int b, int hours, int depth, int lock) {
        if (!in(a, 0, 7) || !in(b, 0, 7) || a == b || !in(hours, 1, 48) || !in(depth, 0, 500)
                || !in(lock, 0, 12) || canals.size() == 12) {
            return NONE;
        }
        canals.add(new Canal(a, b, hours, lock));
        depths.add(depth);
        entries.add(new ArrayList<>());
        return canals.size() - 1;
    }

    boolean depth(int c, int cm) {
        if (!in(c, 0, canals.size() - 1) || !in(cm, 0, 500)) {
            return false;
        }
        depths.set(c, cm);
        return true;
    }

    int skipper(int hold, int empty, int tons, int kinds) {
        if (!in(hold, 1, 600) || !in(empty, 1, 300) || !in(tons, 1, 20) || !in(kinds, 1, 7)
                || skippers.size() == 16) {
            return NONE;
        }
        Skipper s = new Skipper();
        s.hold = hold;
        s.empty = empty;
        s.tons = tons;
        s.kinds = kinds;
        skippers.add(s);
        return skippers.size() - 1;
    }

    boolean wants(int s, int pence, int towns) {
        if (!in(s, 0, skippers.size() - 1) || !in(pence, 0, 1000) || !in(towns, 0, 255)) {
            return false;
        }
        skippers.get(s).wish = pence;
        skippers.get(s).refused = towns;
        return true;
    }

    int sign(int s, int t) {
        if (!in(s, 0, skippers.size() - 1) || !in(t, 0, 7) || skippers.get(s).state != State.OFF) {
            return NONE;
        }
        signIn(s, t);
        return lists.get(t).size();
    }

    private void signIn(int s, int t) {
        Skipper k = skippers.get(s);
        k.state = State.SIGNED;
        k.at = t;
        k.passes = 0;
        k.cargo = NONE;
        k.waited = 0;
        lists.get(t).add(s);
    }

    boolean leave(int s) {
        if (!in(s, 0, skippers.size() - 1) || skippers.get(s).state != State.SIGNED) {
            return false;
        }
        lists.get(skippers.get(s).at).remove((Integer) s);
        skippers.get(s).state = State.OFF;
        skippers.get(s).at = NONE;
        return true;
    }

    int cargo(int from, int to, int tons, int kind, int pence) {
        if (!in(from, 0, 7) || !in(to, 0, 7) || from == to || !in(tons, 1, 600) || !in(kind, 0, 2)
                || !in(pence, 0, 100000) || cargoes.size() == 60) {
            return NONE;
        }
        Cargo c = new Cargo();
        c.from = from;
        c.to = to;
        c.tons = tons;
        c.kind = kind;
        c.pence = pence;
        cargoes.add(c);
        return cargoes.size() - 1;
    }

    private static int up(int a, int b) {
        return a % b == 0 ? a / b : a / b + 1;
    }

    private int draught(int s, int c) {
        Skipper k = skippers.get(s);
        return k.empty + (c == NONE ? 0 : up(cargoes.get(c).tons, k.tons));
    }

    private Way theWay(int s, int c) {
        Skipper k = skippers.get(s);
        Cargo g = cargoes.get(c);
        if ((k.kinds & 1 << g.kind) == 0 || g.tons > k.hold) {
            return null;
        }
        List<Way> all = new ArrayList<>();
        gather(g.from, g.to, draught(s, c), 1 << g.from, new Way(0, List.of()), all);
        return all.stream().min(Comparator.comparingInt((Way w) -> w.hours)
                .thenComparingInt(w -> w.canals.size())
                .thenComparing(PlainBourse::compareRows)).orElse(null);
    }

    private static int compareRows(Way v, Way w) {
        for (int i = 0; i < v.canals.size(); i++) {
            int order = Integer.compare(v.canals.get(i), w.canals.get(i));
            if (order != 0) {
                return order;
            }
        }
        return 0;
    }

    private void gather(int town, int goal, int draught, int seen, Way way, List<Way> all) {
        if (town == goal) {
            all.add(way);
            return;
        }
        for (int c = 0; c < canals.size(); c++) {
            Canal k = canals.get(c);
            int next = k.a == town ? k.b : k.b == town ? k.a : NONE;
            if (next != NONE && depths.get(c) >= draught && (seen & 1 << next) == 0) {
                List<Integer> row = new ArrayList<>(way.canals);
                row.add(c);
                gather(next, goal, draught, seen | 1 << next, new Way(way.hours + k.hours + k.lock, row), all);
            }
        }
    }

    int can(int s, int c) {
        if (!in(s, 0, skippers.size() - 1) || !in(c, 0, cargoes.size() - 1)) {
            return NONE;
        }
        Way way = theWay(s, c);
        return way == null ? 0 : way.hours;
    }

    int way(int s, int c, int i) {
        if (can(s, c) <= 0) {
            return NONE;
        }
        List<Integer> row = theWay(s, c).canals;
        return in(i, 0, row.size() - 1) ? row.get(i) : NONE;
    }

    int step(int n) {
        if (!in(n, 1, 200)) {
            return NONE;
        }
        for (int i = 0; i < n; i++) {
            hour++;
            if (hour % law.get('c') == 0) {
                for (int t = 0; t < 8; t++) {
                    call(t);
                }
            }
            for (int s = 0; s < skippers.size(); s++) {
                act(s);
            }
        }
        return hour;
    }

    private List<Integer> waitingAt(int t) {
        List<Integer> found = new ArrayList<>();
        for (int c = 0; c < cargoes.size(); c++) {
            if (cargoes.get(c).from == t && cargoes.get(c).taken == NONE) {
                found.add(c);
            }
        }
        return found;
    }

    private void call(int t) {
        List<Integer> waiting = waitingAt(t);
        long[] said = {hour, waiting.size(), 0, 0, best(t)};
        for (int c : waiting) {
            if (callOne(t, c)) {
                said[2]++;
                said[3] += cargoes.get(c).pence;
            }
        }
        calls[t] = said;
    }

    private boolean callOne(int t, int c) {
        List<Integer> list = lists.get(t);
        List<Integer> toEnd = new ArrayList<>();
        int refusals = 0;
        boolean taken = false;
        for (int s : List.copyOf(list)) {
            if (taken || can(s, c) == 0) {
                continue;
            }
            Skipper k = skippers.get(s);
            Cargo g = cargoes.get(c);
            if (g.pence < k.wish * g.tons || (k.refused & 1 << g.to) != 0) {
                refusals++;
                k.passes++;
                if (k.passes > law.get('p')) {
                    toEnd.add(s);
                }
            } else {
                taken = true;
                list.remove((Integer) s);
                k.state = State.LOADING;
                k.cargo = c;
                k.left = up(g.tons, law.get('u'));
                k.ahead = new ArrayList<>(theWay(s, c).canals);
                g.taker = s;
                g.taken = hour;
                g.refusals = refusals;
            }
        }
        list.removeAll(toEnd);
        list.addAll(toEnd);
        toEnd.forEach(s -> skippers.get(s).passes = 0);
        return taken;
    }

    private void act(int s) {
        Skipper k = skippers.get(s);
        Cargo g = k.cargo == NONE ? null : cargoes.get(k.cargo);
        switch (k.state) {
            case LOADING -> {
                if (--k.left == 0) {
                    k.state = State.FOR_CANAL;
                }
            }
            case FOR_CANAL -> {
                int c = k.ahead.get(0);
                int lock = canals.get(c).lock;
                boolean free = entries.get(c).stream().noneMatch(h -> h > hour - lock);
                if (free && depths.get(c) >= draught(s, k.cargo)) {
                    entries.get(c).add(hour);
                    k.state = State.SAILING;
                    k.left = canals.get(c).hours + lock;
                    k.at = k.at == canals.get(c).a ? canals.get(c).b : canals.get(c).a;
                }
            }
            case SAILING -> {
                if (--k.left == 0) {
                    k.ahead.remove(0);
                    k.state = k.at == g.to ? State.FOR_BERTH : State.FOR_CANAL;
                }
            }
            case FOR_BERTH -> {
                long busy = skippers.stream().filter(o -> o.state == State.UNLOADING && o.at == k.at).count();
                if (busy < berths[k.at]) {
                    k.state = State.UNLOADING;
                    k.left = up(g.tons, law.get('u'));
                } else {
                    k.waited++;
                }
            }
            case UNLOADING -> {
                if (--k.left == 0) {
                    k.money += g.pence;
                    if (k.waited > law.get('f')) {
                        k.money += (long) law.get('d') * (k.waited - law.get('f'));
                    }
                    g.brought = hour;
                    signIn(s, k.at);
                }
            }
            default -> { }
        }
    }

    long look(int s, int what) {
        if (!in(s, 0, skippers.size() - 1)) {
            return NONE;
        }
        Skipper k = skippers.get(s);
        boolean canal = k.state == State.FOR_CANAL || k.state == State.SAILING;
        return switch (what) {
            case 0 -> k.state.ordinal();
            case 1 -> k.at;
            case 2 -> k.state == State.SIGNED ? lists.get(k.at).indexOf(s) + 1 : NONE;
            case 3 -> k.passes;
            case 4 -> k.cargo;
            case 5 -> k.left;
            case 6 -> k.waited;
            case 7 -> k.money;
            case 8 -> canal ? k.ahead.get(0) : NONE;
            case 9 -> draught(s, k.cargo);
            default -> NONE;
        };
    }

    int told(int c, int what) {
        if (!in(c, 0, cargoes.size() - 1)) {
            return NONE;
        }
        Cargo g = cargoes.get(c);
        return switch (what) {
            case 0 -> stateOf(g);
            case 1 -> g.taker;
            case 2 -> g.taken;
            case 3 -> g.brought;
            case 4 -> g.refusals;
            default -> NONE;
        };
    }

    private static int stateOf(Cargo g) {
        return g.brought != NONE ? 2 : g.taken != NONE ? 1 : 0;
    }

    int list(int t, int i) {
        return in(t, 0, 7) && in(i, 0, lists.get(t).size() - 1) ? lists.get(t).get(i) : NONE;
    }

    long called(int t, int what) {
        return in(t, 0, 7) && calls[t] != null && in(what, 0, 4) ? calls[t][what] : NONE;
    }

    /** For each set of the skippers the greatest sum that the cargoes so far bring with just these. */
    long best(int t) {
        if (!in(t, 0, 7)) {
            return NONE;
        }
        List<Integer> list = lists.get(t);
        long[] sums = new long[1 << list.size()];
        for (int c : waitingAt(t).stream().limit(10).toList()) {
            long[] next = sums.clone();
            for (int i = 0; i < list.size(); i++) {
                if (can(list.get(i), c) == 0) {
                    continue;
                }
                for (int set = 0; set < sums.length; set++) {
                    if ((set & 1 << i) != 0) {
                        next[set] = Math.max(next[set], sums[set ^ 1 << i] + cargoes.get(c).pence);
                    }
                }
            }
            sums = next;
        }
        return sums[sums.length - 1];
    }

    int count(int what) {
        return switch (what) {
            case 0 -> hour;
            case 1 -> canals.size();
            case 2 -> skippers.size();
            case 3 -> cargoes.size();
            case 4, 5, 6 -> (int) cargoes.stream().filter(g -> stateOf(g) == what - 4).count();
            case 7 -> (int) skippers.stream().filter(k -> k.state == State.SIGNED).count();
            case 8 -> tape.length();
            default -> NONE;
        };
    }
}
