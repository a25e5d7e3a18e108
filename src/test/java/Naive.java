import java.math.BigInteger;
import java.util.ArrayDeque;
import java.util.ArrayList;
import java.util.Arrays;
import java.util.HashMap;
import java.util.HashSet;
import java.util.List;
import java.util.Map;
import java.util.Set;
import java.util.regex.Matcher;
import java.util.regex.Pattern;

/**
 * The document once more, written apart from TwoSeek, with the whole library, by other means and
 * without a thought for speed. FaceTest plays both against one another.
 */
final class Naive {
    static final int NONE = -1;

    record Part(int kind, String text, int at) {
    }

    /** A town as it was told. */
    static final class Place {
        String name;
        int sees = 0;
        int first = 1;
        int second = 1;
        final List<Integer> lanes = new ArrayList<>();
    }

    record Lane(int from, int to) {
        int otherEnd(int p) {
            return p == from ? to : from;
        }
    }

    static final class Told {
        final List<Place> places = new ArrayList<>();
        final List<Lane> lanes = new ArrayList<>();
        boolean cross;
        int slow = 1;
        int hears = 0;
    }

    record Way(boolean byClock, boolean again, int[] numbers) {
    }

    static final class Faulty extends Exception {
        final int kind;
        final int at;

        Faulty(int kind, int at) {
            this.kind = kind;
            this.at = at;
        }
    }

    int status = 0;
    BigInteger top = BigInteger.ZERO;
    BigInteger bottom = BigInteger.ONE;
    final long[][] trays = new long[4][];
    final int[] sorts = new int[4];
    StringBuilder tape = new StringBuilder();
    Told town = new Told();
    Set<Integer> shut = new HashSet<>();
    boolean marks = false;
    int faultKind = NONE;
    int faultAt = NONE;
    final List<Way> ways = new ArrayList<>();
    int[] agreedFirst = new int[0];
    int[] agreedSecond = new int[0];
    int[] alikeRow = new int[0];
    BigInteger[][] chances = new BigInteger[0][];

    private int no(int why) {
        status = why;
        return NONE;
    }

    private boolean not(int why) {
        status = why;
        return false;
    }

    private int yes(int v) {
        status = 0;
        return v;
    }

    private boolean fine() {
        status = 0;
        return true;
    }

    private void tell(BigInteger t, BigInteger b) {
        BigInteger g = t.gcd(b);
        top = t.divide(g);
        bottom = b.divide(g);
    }

    int status() {
        return status;
    }

    long top() {
        return top.longValueExact();
    }

    long bottom() {
        return bottom.longValueExact();
    }

    // ---- trays

    boolean tray(int tray, int sort, int many) {
        if (tray < 0 || tray > 3 || sort < 0 || sort > 3) {
            return not(1);
        }
        if (many > 64) {
            return not(5);
        }
        if (many < 0) {
            return not(6);
        }
        trays[tray] = new long[many];
        sorts[tray] = sort;
        return fine();
    }

    boolean write(int tray, int place, long v) {
        if (tray < 0 || tray > 3) {
            return not(1);
        }
        if (trays[tray] == null) {
            return not(3);
        }
        if (place < 0 || place >= trays[tray].length) {
            return not(4);
        }
        int bits = 8 << sorts[tray];
        trays[tray][place] = v << (64 - bits) >> (64 - bits);
        return fine();
    }

    long read(int tray, int place) {
        if (tray < 0 || tray > 3) {
            return no(1);
        }
        if (trays[tray] == null) {
            return no(3);
        }
        if (place < 0 || place >= trays[tray].length) {
            return no(4);
        }
        status = 0;
        return trays[tray][place];
    }

    boolean pour(int tray, int i, int to, int j, int many) {
        if (tray < 0 || tray > 3 || to < 0 || to > 3) {
            return not(1);
        }
        if (trays[tray] == null || trays[to] == null) {
            return not(3);
        }
        if (sorts[tray] != sorts[to]) {
            return not(11);
        }
        if (many < 0) {
            return not(6);
        }
        try {
            System.arraycopy(trays[tray], i, trays[to], j, many);
        } catch (IndexOutOfBoundsException e) {
            return not(4);
        }
        return fine();
    }

    // ---- the town

    int feed(int a, int b, int c, int d, int e) {
        if (tape.length() > 480) {
            return NONE;
        }
        for (int v : new int[] {a, b, c, d, e}) {
            tape.append((char) (v >>> 24)).append((char) (v >>> 16 & 255));
            tape.append((char) (v >>> 8 & 255)).append((char) (v & 255));
        }
        return tape.length();
    }

    int town(int n) {
        if (n < 0 || n > tape.length()) {
            return no(5);
        }
        String text = tape.substring(0, n);
        tape = new StringBuilder();
        try {
            town = tell(text);
        } catch (Faulty f) {
            faultKind = f.kind;
            faultAt = f.at;
            return no(10);
        }
        faultKind = 0;
        faultAt = NONE;
        shut = new HashSet<>();
        marks = false;
        return yes(town.places.size());
    }

    private static final Pattern TOKENS = Pattern.compile("([a-z]+)|([0-9]+)|(;)|([ \n]+)|(.)", Pattern.DOTALL);

    private static List<Part> tokens(String text) {
        List<Part> all = new ArrayList<>();
        Matcher m = TOKENS.matcher(text);
        while (m.find()) {
            if (m.group(4) != null) {
                continue;
            }
            int kind = m.group(1) != null ? 'w' : m.group(2) != null ? 'n' : m.group(3) != null ? ';' : '?';
            if (kind == 'n' && m.group().length() > 2) {
                kind = '?';
            }
            all.add(new Part(kind, m.group(), m.start()));
        }
        all.add(new Part('$', "", text.length()));
        return all;
    }

    /** Reads by expectations: a pattern of letters for each kind of part. */
    private static Told tell(String text) throws Faulty {
        Told t = new Told();
        List<Part> all = tokens(text);
        Set<String> once = new HashSet<>();
        int i = 0;
        while (all.get(i).kind != '$') {
            Part head = all.get(i);
            check(head, head.kind == 'w' && List.of("place", "lane", "cross", "slow", "hears").contains(head.text), 2);
            i++;
            switch (head.text) {
                case "place" -> i = tellPlace(t, all, i);
                case "lane" -> i = tellLane(t, all, i, head);
                default -> {
                    check(head, once.add(head.text), 5);
                    if (head.text.equals("cross")) {
                        t.cross = true;
                    } else {
                        int least = head.text.equals("slow") ? 1 : 0;
                        int most = head.text.equals("slow") ? 4 : 3;
                        int v = number(all.get(i), least, most);
                        i++;
                        if (head.text.equals("slow")) {
                            t.slow = v;
                        } else {
                            t.hears = v;
                        }
                    }
                }
            }
            check(all.get(i), all.get(i).kind == ';', 2);
            i++;
        }
        return t;
    }

    private static void check(Part p, boolean fine, int fault) throws Faulty {
        if (p.kind == '?') {
            throw new Faulty(1, p.at);
        }
        if (!fine) {
            throw new Faulty(fault, p.at);
        }
    }

    private static int number(Part p, int least, int most) throws Faulty {
        check(p, p.kind == 'n', 2);
        int v = Integer.parseInt(p.text);
        check(p, v >= least && v <= most, 4);
        return v;
    }

    private static void name(Part p) throws Faulty {
        Set<String> kept = Set.of("place", "lane", "to", "cross", "slow", "hears", "sees", "first", "second");
        check(p, p.kind == 'w' && p.text.length() <= 8 && !kept.contains(p.text), 2);
    }

    private static int find(Told t, Part p) {
        for (int i = 0; i < t.places.size(); i++) {
            if (t.places.get(i).name.equals(p.text)) {
                return i;
            }
        }
        return NONE;
    }

    private static int tellPlace(Told t, List<Part> all, int from) throws Faulty {
        int i = from;
        Part p = all.get(i);
        name(p);
        check(p, find(t, p) == NONE, 3);
        check(p, t.places.size() < 8, 6);
        Place place = new Place();
        place.name = p.text;
        t.places.add(place);
        i++;
        Set<String> had = new HashSet<>();
        while (all.get(i).kind == 'w' && List.of("sees", "first", "second").contains(all.get(i).text)) {
            String feature = all.get(i).text;
            check(all.get(i), had.add(feature), 5);
            int v = number(all.get(i + 1), 0, feature.equals("sees") ? 5 : 9);
            switch (feature) {
                case "sees" -> place.sees = v;
                case "first" -> place.first = v;
                default -> place.second = v;
            }
            i += 2;
        }
        return i;
    }

    private static int tellLane(Told t, List<Part> all, int i, Part head) throws Faulty {
        check(head, t.lanes.size() < 12, 6);
        Part one = all.get(i);
        name(one);
        int a = find(t, one);
        check(one, a != NONE, 3);
        check(one, t.places.get(a).lanes.size() < 4, 6);
        check(all.get(i + 1), all.get(i + 1).text.equals("to"), 2);
        Part other = all.get(i + 2);
        name(other);
        int b = find(t, other);
        check(other, b != NONE, 3);
        check(other, a != b, 5);
        check(other, t.places.get(b).lanes.size() < 4, 6);
        for (Lane l : t.lanes) {
            check(other, !(l.from == a && l.to == b || l.from == b && l.to == a), 6);
        }
        t.places.get(a).lanes.add(t.lanes.size());
        t.places.get(b).lanes.add(t.lanes.size());
        t.lanes.add(new Lane(a, b));
        return i + 3;
    }

    int fault(int what) {
        return what == 0 ? faultKind : what == 1 ? faultAt : NONE;
    }

    int many(int what) {
        return switch (what) {
            case 0 -> yes(town.places.size());
            case 1 -> yes(town.lanes.size());
            case 2 -> yes(ways.size());
            default -> no(5);
        };
    }

    private boolean isPlace(int p) {
        return p >= 0 && p < town.places.size();
    }

    private boolean isWay(long w) {
        return w >= 0 && w < ways.size();
    }

    int place(int place, int what) {
        if (!isPlace(place)) {
            return no(2);
        }
        if (what < 0 || what > 5) {
            return no(5);
        }
        Place p = town.places.get(place);
        if (what == 0) {
            return yes(p.sees);
        }
        if (what == 1) {
            return yes(p.lanes.size());
        }
        if (p.lanes.size() <= what - 2) {
            return no(8);
        }
        return yes(town.lanes.get(p.lanes.get(what - 2)).otherEnd(place));
    }

    boolean shut(int lane, boolean is) {
        if (lane < 0 || lane >= town.lanes.size()) {
            return not(2);
        }
        if (is) {
            shut.add(lane);
        } else {
            shut.remove(lane);
        }
        return fine();
    }

    boolean marks(boolean are) {
        marks = are;
        return fine();
    }

    private int lanesBetween(int a, int b) {
        Map<Integer, Integer> far = new HashMap<>();
        ArrayDeque<Integer> queue = new ArrayDeque<>();
        far.put(a, 0);
        queue.add(a);
        while (!queue.isEmpty()) {
            int p = queue.remove();
            for (int l : town.places.get(p).lanes) {
                int q = town.lanes.get(l).otherEnd(p);
                if (!shut.contains(l) && !far.containsKey(q)) {
                    far.put(q, far.get(p) + 1);
                    queue.add(q);
                }
            }
        }
        return far.getOrDefault(b, NONE);
    }

    int distance(int a, int b) {
        if (!isPlace(a) || !isPlace(b)) {
            return no(2);
        }
        int d = lanesBetween(a, b);
        return d == NONE ? no(8) : yes(d);
    }

    // ---- ways

    int clock(int tray, int many, boolean again) {
        if (tray < 0 || tray > 3) {
            return no(1);
        }
        if (trays[tray] == null) {
            return no(3);
        }
        if (many < 1 || many > 24) {
            return no(5);
        }
        return addWay(tray, many, 4, true, again);
    }

    int sight(int tray) {
        if (tray < 0 || tray > 3) {
            return no(1);
        }
        if (trays[tray] == null) {
            return no(3);
        }
        return addWay(tray, 18, 14, false, false);
    }

    private int addWay(int tray, int many, int most, boolean byClock, boolean again) {
        if (trays[tray].length < many) {
            return no(4);
        }
        int[] numbers = new int[many];
        for (int i = 0; i < many; i++) {
            if (trays[tray][i] < 0 || trays[tray][i] > most) {
                return no(5);
            }
            numbers[i] = (int) trays[tray][i];
        }
        if (ways.size() == 12) {
            return no(7);
        }
        ways.add(new Way(byClock, again, numbers));
        return yes(ways.size() - 1);
    }

    private int to(int p, int step) {
        List<Integer> lanes = town.places.get(p).lanes;
        if (step == 0 || step > lanes.size() || shut.contains(lanes.get(step - 1))) {
            return p;
        }
        return town.lanes.get(lanes.get(step - 1)).otherEnd(p);
    }

    /** One who walks: all the steps done so far decide the next one. */
    private final class Goer {
        final Way way;
        int done = 0;
        int mood = 0;
        int at;

        Goer(int way, int at) {
            this.way = ways.get(way);
            this.at = at;
        }

        int next() {
            if (way.byClock) {
                int i = done++;
                if (way.again) {
                    return way.numbers[i % way.numbers.length];
                }
                return i < way.numbers.length ? way.numbers[i] : 0;
            }
            int v = way.numbers[mood * 6 + town.places.get(at).sees];
            mood = v / 5;
            return v % 5;
        }
    }

    private boolean meet(int p, int q, int p2, int q2) {
        return p2 == q2 || town.cross && p2 == q && q2 == p;
    }

    private int whenOf(int one, int other, int a, int b) {
        Goer f = new Goer(one, a);
        Goer s = new Goer(other, b);
        Map<Integer, Integer> left = new HashMap<>();
        if (a == b) {
            return 0;
        }
        for (int tick = 0; tick < 200; tick++) {
            int p = f.at;
            int q = s.at;
            boolean stands = tick % town.slow != 0;
            int d = lanesBetween(p, q);
            if (d != NONE && d <= town.hears) {
                if (!stands) {
                    for (int l : town.places.get(q).lanes) {
                        int r = town.lanes.get(l).otherEnd(q);
                        int e = shut.contains(l) ? NONE : lanesBetween(r, p);
                        if (e != NONE && e < d) {
                            s.at = r;
                            break;
                        }
                    }
                }
            } else {
                int step = f.next();
                f.at = to(p, step);
                if (!stands) {
                    if (marks && left.containsKey(q)) {
                        int lane = left.get(q);
                        s.at = shut.contains(lane) ? q : town.lanes.get(lane).otherEnd(q);
                    } else {
                        s.at = to(q, s.next());
                    }
                }
                if (f.at != p) {
                    left.put(p, town.places.get(p).lanes.get(step - 1));
                }
            }
            if (meet(p, q, f.at, s.at)) {
                return tick + 1;
            }
        }
        return NONE;
    }

    int when(int one, int other, int a, int b) {
        if (!isWay(one) || !isWay(other) || !isPlace(a) || !isPlace(b)) {
            return no(2);
        }
        int w = whenOf(one, other, a, b);
        return w == NONE ? no(8) : yes(w);
    }

    int judge(int one, int other, int tray) {
        if (tray < 0 || tray > 3) {
            return no(1);
        }
        if (!isWay(one) || !isWay(other)) {
            return no(2);
        }
        if (trays[tray] == null) {
            return no(3);
        }
        int n = town.places.size();
        if (trays[tray].length < n * n) {
            return no(4);
        }
        for (int i = 0; i < n * n; i++) {
            if (whenOf(one, other, i / n, i % n) != trays[tray][i]) {
                return yes(i / n * 8 + i % n);
            }
        }
        return yes(NONE);
    }

    private int likely(int a, int b) {
        return town.places.get(a).first * town.places.get(b).second;
    }

    private int allLikely() {
        int sum = 0;
        for (int a = 0; a < town.places.size(); a++) {
            for (int b = 0; b < town.places.size(); b++) {
                sum += likely(a, b);
            }
        }
        return sum;
    }

    /** All times WHEN, as often as they are likely; null if there is no MEAN. */
    private List<Integer> times(int one, int other) {
        List<Integer> all = new ArrayList<>();
        for (int a = 0; a < town.places.size(); a++) {
            for (int b = 0; b < town.places.size(); b++) {
                for (int k = 0; k < likely(a, b); k++) {
                    int w = whenOf(one, other, a, b);
                    if (w == NONE) {
                        return null;
                    }
                    all.add(w);
                }
            }
        }
        return all.isEmpty() ? null : all;
    }

    private static long sum(List<Integer> all) {
        long sum = 0;
        for (int v : all) {
            sum += v;
        }
        return sum;
    }

    boolean mean(int one, int other) {
        if (!isWay(one) || !isWay(other)) {
            return not(2);
        }
        List<Integer> all = times(one, other);
        if (all == null) {
            return not(9);
        }
        tell(BigInteger.valueOf(sum(all)), BigInteger.valueOf(all.size()));
        return fine();
    }

    int worst(int one, int other) {
        if (!isWay(one) || !isWay(other)) {
            return no(2);
        }
        List<Integer> all = times(one, other);
        return all == null ? no(9) : yes(all.stream().mapToInt(v -> v).max().getAsInt());
    }

    // ---- same, agreed, alike, parted

    /** By names that grow: a place is called by its sight and what its lanes lead to. */
    int same(int a, int b) {
        if (!isPlace(a) || !isPlace(b)) {
            return no(2);
        }
        int n = town.places.size();
        int[] called = new int[n];
        for (int round = 0; round <= n + 1; round++) {
            Map<String, Integer> names = new HashMap<>();
            int[] now = new int[n];
            for (int p = 0; p < n; p++) {
                StringBuilder s = new StringBuilder().append(called[p]).append(":").append(town.places.get(p).sees);
                for (int l : town.places.get(p).lanes) {
                    s.append(",").append(called[town.lanes.get(l).otherEnd(p)]);
                }
                names.putIfAbsent(s.toString(), names.size());
                now[p] = names.get(s.toString());
            }
            called = now;
        }
        return yes(called[a] == called[b] ? 1 : 0);
    }

    private int whenByRows(int[] f, int[] s, int a, int b) {
        int p = a;
        int q = b;
        if (p == q) {
            return 0;
        }
        for (int tick = 0; tick < f.length; tick++) {
            int p2 = to(p, f[tick]);
            int q2 = tick % town.slow == 0 ? to(q, s[tick]) : q;
            if (meet(p, q, p2, q2)) {
                return tick + 1;
            }
            p = p2;
            q = q2;
        }
        return NONE;
    }

    private long[] missedAndLate(int[] f, int[] s) {
        long missed = 0;
        long late = 0;
        for (int a = 0; a < town.places.size(); a++) {
            for (int b = 0; b < town.places.size(); b++) {
                int w = whenByRows(f, s, a, b);
                missed += w == NONE ? likely(a, b) : 0;
                late += (long) likely(a, b) * (w == NONE ? f.length + 1 : w);
            }
        }
        return new long[] {missed, late};
    }

    int agreed(int many) {
        if (many < 1 || many > 3) {
            return no(5);
        }
        if (allLikely() == 0) {
            return no(9);
        }
        long[] best = null;
        int all = (int) Math.round(Math.pow(5, 2 * many));
        for (int c = 0; c < all; c++) {
            int[] f = new int[many];
            int[] s = new int[many];
            int rest = c;
            for (int k = many - 1; k >= 0; k--) {
                s[k] = rest % 5;
                f[k] = rest / 5 % 5;
                rest /= 25;
            }
            long[] now = missedAndLate(f, s);
            if (best == null || Arrays.compare(now, best) < 0) {
                best = now;
                agreedFirst = f;
                agreedSecond = s;
            }
        }
        tell(BigInteger.valueOf(best[1]), BigInteger.valueOf(allLikely()));
        return yes((int) best[0]);
    }

    int step(int who, int k) {
        if (who != 0 && who != 1) {
            return no(5);
        }
        int[] row = who == 0 ? agreedFirst : agreedSecond;
        return k < 0 || k >= row.length ? no(8) : yes(row[k]);
    }

    int alike(int many) {
        if (many < 1 || many > 5) {
            return no(5);
        }
        if (allLikely() == 0) {
            return no(9);
        }
        long[] best = null;
        int all = (int) Math.round(Math.pow(5, many));
        for (int c = 0; c < all; c++) {
            int[] f = new int[many];
            int rest = c;
            for (int k = many - 1; k >= 0; k--) {
                f[k] = rest % 5;
                rest /= 5;
            }
            long[] now = missedAndLate(f, f);
            if (best == null || Arrays.compare(now, best) < 0) {
                best = now;
                alikeRow = f;
            }
        }
        tell(BigInteger.valueOf(best[1]), BigInteger.valueOf(allLikely()));
        return yes((int) best[0]);
    }

    int alikeStep(int k) {
        return k < 0 || k >= alikeRow.length ? no(8) : yes(alikeRow[k]);
    }

    int parted(int a, int b, int what) {
        if (!isPlace(a) || !isPlace(b) || a == b) {
            return no(2);
        }
        if (what != 0 && what != 1) {
            return no(5);
        }
        return yes(what == 0 ? partedBackwards(a, b) : turned(a, b));
    }

    /** From those who meet in one step backwards. */
    private int partedBackwards(int a, int b) {
        int n = town.places.size();
        boolean[][] can = new boolean[n][n];
        for (int round = 0; round <= n * n; round++) {
            for (int p = 0; p < n; p++) {
                for (int q = 0; q < n; q++) {
                    for (int s = 0; s < 5; s++) {
                        int p2 = to(p, s);
                        int q2 = to(q, s);
                        can[p][q] |= p == q || meet(p, q, p2, q2) || can[p2][q2];
                    }
                }
            }
        }
        return can[a][b] ? 0 : 1;
    }

    /** All ways to put places on places (not one to one alone) that put these two right. */
    private int turned(int a, int b) {
        int n = town.places.size();
        int[] put = new int[n];
        Arrays.fill(put, NONE);
        put[a] = b;
        put[b] = a;
        return fits(put) && turnRest(put, 0) ? 1 : 0;
    }

    private boolean turnRest(int[] put, int from) {
        int i = from;
        while (i < put.length && put[i] != NONE) {
            i++;
        }
        if (i == put.length) {
            return true;
        }
        for (int v = 0; v < put.length; v++) {
            put[i] = v;
            if (fits(put) && turnRest(put, i + 1)) {
                return true;
            }
        }
        put[i] = NONE;
        return false;
    }

    private boolean fits(int[] put) {
        for (int p = 0; p < put.length; p++) {
            if (put[p] == NONE) {
                continue;
            }
            if (town.places.get(p).sees != town.places.get(put[p]).sees) {
                return false;
            }
            for (int k = 1; k < 5; k++) {
                int x = to(p, k);
                int y = to(put[p], k);
                if ((x == p) != (y == put[p])) {
                    return false;
                }
                if (x != p && put[x] != NONE && put[x] != y) {
                    return false;
                }
            }
        }
        return true;
    }

    // ---- drawn, three, shy, door, wander

    private BigInteger drawnFrom(int a, int b, int one, int other, int n, int ticks, int times) {
        BigInteger whole = BigInteger.valueOf(256).pow(times);
        if (a == b) {
            return whole;
        }
        if (times == 0) {
            return BigInteger.ZERO;
        }
        BigInteger sum = BigInteger.ZERO;
        for (int draw = 0; draw < 4; draw++) {
            long share = (draw < 2 ? n : 16 - n) * (draw % 2 == 0 ? n : 16 - n);
            if (share == 0) {
                continue;
            }
            Goer f = new Goer(draw < 2 ? one : other, a);
            Goer s = new Goer(draw % 2 == 0 ? one : other, b);
            boolean met = false;
            for (int tick = 0; tick < ticks && !met; tick++) {
                int p = f.at;
                int q = s.at;
                f.at = to(p, f.next());
                s.at = to(q, s.next());
                met = meet(p, q, f.at, s.at);
            }
            BigInteger then = met ? BigInteger.valueOf(256).pow(times - 1)
                    : drawnFrom(f.at, s.at, one, other, n, ticks, times - 1);
            sum = sum.add(then.multiply(BigInteger.valueOf(share)));
        }
        return sum;
    }

    private BigInteger[] drawnAll(int one, int other, int n, int ticks, int times) {
        BigInteger sum = BigInteger.ZERO;
        for (int a = 0; a < town.places.size(); a++) {
            for (int b = 0; b < town.places.size(); b++) {
                if (likely(a, b) > 0) {
                    BigInteger c = drawnFrom(a, b, one, other, n, ticks, times);
                    sum = sum.add(c.multiply(BigInteger.valueOf(likely(a, b))));
                }
            }
        }
        return new BigInteger[] {sum, BigInteger.valueOf(256).pow(times).multiply(BigInteger.valueOf(allLikely()))};
    }

    boolean drawn(int one, int other, int n, int ticks, int times) {
        if (!isWay(one) || !isWay(other)) {
            return not(2);
        }
        if (n < 0 || n > 16 || ticks < 1 || ticks > 24 || times < 1 || times > 5) {
            return not(5);
        }
        if (allLikely() == 0) {
            return not(9);
        }
        BigInteger[] c = drawnAll(one, other, n, ticks, times);
        tell(c[0], c[1]);
        return fine();
    }

    int bestDrawn(int one, int other, int ticks, int times) {
        if (!isWay(one) || !isWay(other)) {
            return no(2);
        }
        if (ticks < 1 || ticks > 24 || times < 1 || times > 5) {
            return no(5);
        }
        if (allLikely() == 0) {
            return no(9);
        }
        BigInteger[] best = null;
        int bestN = 0;
        for (int n = 0; n <= 16; n++) {
            BigInteger[] c = drawnAll(one, other, n, ticks, times);
            if (best == null || c[0].compareTo(best[0]) > 0) {
                best = c;
                bestN = n;
            }
        }
        tell(best[0], best[1]);
        return yes(bestN);
    }

    /** By groups: each has those in it, and is led by its least one. */
    int three(int one, int two, int last, int places) {
        String digits = places < 0 || places > 999 ? "" : String.valueOf(places + 1000).substring(1);
        if (digits.isEmpty() || !isWay(one) || !isWay(two) || !isWay(last)) {
            return no(2);
        }
        int[] at = new int[3];
        for (int i = 0; i < 3; i++) {
            at[i] = digits.charAt(i) - '0';
            if (!isPlace(at[i])) {
                return no(2);
            }
        }
        List<Goer> groups = new ArrayList<>();
        int[] by = {one, two, last};
        for (int i = 0; i < 3; i++) {
            groups.add(new Goer(by[i], at[i]));
        }
        for (int tick = 0; tick <= 200; tick++) {
            for (int i = groups.size() - 1; i > 0; i--) {
                for (int j = 0; j < i; j++) {
                    if (groups.get(i).at == groups.get(j).at) {
                        groups.remove(i);
                        break;
                    }
                }
            }
            if (groups.size() == 1) {
                return yes(tick);
            }
            for (Goer g : groups) {
                g.at = to(g.at, g.next());
            }
        }
        return no(8);
    }

    boolean value(int tray, int many, int others, int otherMany, int a, int b, int cap) {
        if (tray < 0 || tray > 3 || others < 0 || others > 3) {
            return not(1);
        }
        if (!isPlace(a) || !isPlace(b)) {
            return not(2);
        }
        if (trays[tray] == null || trays[others] == null) {
            return not(3);
        }
        if (many < 1 || many > 3 || otherMany < 1 || otherMany > 3 || cap < 1 || cap > 100) {
            return not(5);
        }
        if (trays[tray].length < many || trays[others].length < otherMany) {
            return not(4);
        }
        long[][] worth = new long[many][otherMany];
        for (int i = 0; i < many; i++) {
            if (!isWay(trays[tray][i])) {
                return not(2);
            }
        }
        for (int j = 0; j < otherMany; j++) {
            if (!isWay(trays[others][j])) {
                return not(2);
            }
        }
        for (int i = 0; i < many; i++) {
            for (int j = 0; j < otherMany; j++) {
                int w = whenOf((int) trays[tray][i], (int) trays[others][j], a, b);
                worth[i][j] = w == NONE ? cap : Math.min(w, cap);
            }
        }
        Frac[] x = new Frac[3];
        Frac v = Frac.solve(worth, x);
        tell(v.top, v.bottom);
        chances = new BigInteger[many][];
        for (int i = 0; i < many; i++) {
            chances[i] = new BigInteger[] {x[i].top, x[i].bottom};
        }
        return fine();
    }

    boolean chance(int k) {
        if (k < 0 || k >= chances.length) {
            return not(8);
        }
        tell(chances[k][0], chances[k][1]);
        return fine();
    }

    int door(int one, int other) {
        if (!isWay(one) || !isWay(other)) {
            return no(2);
        }
        Set<Integer> were = new HashSet<>(shut);
        List<Integer> best = times(one, other);
        int lane = NONE;
        for (int l = 0; l < town.lanes.size(); l++) {
            shut.add(l);
            List<Integer> now = times(one, other);
            if (now != null && (best == null || sum(now) < sum(best))) {
                best = now;
                lane = l;
            }
            shut = new HashSet<>(were);
        }
        if (best == null) {
            return no(9);
        }
        tell(BigInteger.valueOf(sum(best)), BigInteger.valueOf(best.size()));
        return yes(lane);
    }

    int wander(int seed, int a, int b) {
        if (!isPlace(a) || !isPlace(b)) {
            return no(2);
        }
        if (seed < 0) {
            return no(5);
        }
        BigInteger s = BigInteger.valueOf(seed);
        int[] at = {a, b};
        for (int tick = 0; tick <= 1000; tick++) {
            if (at[0] == at[1]) {
                return yes(tick);
            }
            int[] was = at.clone();
            for (int who = 0; who < 2; who++) {
                s = s.multiply(BigInteger.valueOf(1103515245L)).add(BigInteger.valueOf(12345));
                s = s.mod(BigInteger.TWO.pow(31));
                at[who] = to(at[who], s.divide(BigInteger.valueOf(65536)).mod(BigInteger.valueOf(5)).intValue());
            }
            if (tick < 1000 && meet(was[0], was[1], at[0], at[1])) {
                return yes(tick + 1);
            }
        }
        return no(8);
    }
}
