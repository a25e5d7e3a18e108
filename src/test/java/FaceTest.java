import java.util.Random;

/** TwoSeek and Naive answer the same calls by chance, 512 at most on each object. */
public final class FaceTest {
    private static final int OBJECTS = 1500;
    private static final int[] SEEN = new int[36 * 12];
    private static final String[] CALLS = {"", "", "status", "top", "bottom", "tray", "write", "read", "pour", "feed",
        "town", "fault", "many", "place", "shut", "marks", "distance", "clock", "sight", "when", "judge", "mean",
        "worst", "same", "agreed", "step", "alike", "alikeStep", "parted", "drawn", "bestDrawn", "three", "value",
        "chance", "door", "wander"};

    private final Random r;
    private final Texts texts;
    private final TwoSeek x = new TwoSeek();
    private final Naive n = new Naive();
    private final int run;
    private int calls;

    private FaceTest(int run) {
        this.run = run;
        r = new Random(run * 7919L + 17);
        texts = new Texts(r);
    }

    public static void main(String[] args) {
        int objects = args.length > 0 ? Integer.parseInt(args[0]) : OBJECTS;
        int first = args.length > 1 ? Integer.parseInt(args[1]) : 0;
        for (int run = first; run < first + objects && Seek.failures() < 20; run++) {
            new FaceTest(run).play();
        }
        for (int call = 5; call < 36; call++) {
            StringBuilder b = new StringBuilder(CALLS[call]).append(":");
            for (int status = 0; status < 12; status++) {
                if (SEEN[call * 12 + status] > 0) {
                    b.append(" ").append(status).append("x").append(SEEN[call * 12 + status]);
                }
            }
            System.out.println(b);
        }
        Seek.end();
    }

    private void same(int call, String args, long got, long want) {
        calls++;
        String name = "run " + run + " call " + calls + ": " + CALLS[call] + "(" + args + ")";
        Seek.due(name, got, want);
        Seek.due(name + " STATUS", x.status(), n.status());
        Seek.due(name + " top", x.top(), n.top());
        Seek.due(name + " bottom", x.bottom(), n.bottom());
        Seek.due(name + " fault", x.fault(0), n.fault(0));
        Seek.due(name + " fault's place", x.fault(1), n.fault(1));
        SEEN[call * 12 + x.status()]++;
    }

    private void same(int call, String args, boolean got, boolean want) {
        same(call, args, got ? 1 : 0, want ? 1 : 0);
    }

    private int oneOf(int... all) {
        return all[r.nextInt(all.length)];
    }

    private int odd() {
        return oneOf(-1, Integer.MIN_VALUE, Integer.MAX_VALUE, 100, -2, 1 << 30, 65536, 12, 8, 64);
    }

    private int some(int below) {
        return r.nextInt(25) == 0 ? odd() : below <= 0 ? 0 : r.nextInt(below);
    }

    private int aPlace() {
        return some(n.town.places.size());
    }

    private int aWay() {
        return some(n.ways.size());
    }

    private int aTray() {
        return some(4);
    }

    private String of(Object... all) {
        StringBuilder b = new StringBuilder();
        for (Object o : all) {
            b.append(b.length() == 0 ? "" : ", ").append(o);
        }
        return b.toString();
    }

    private void play() {
        for (int k = r.nextInt(6); k > 0; k--) {
            any();
        }
        tellTown();
        for (int k = 2 + r.nextInt(4); k > 0; k--) {
            aNewWay();
        }
        while (calls < 400) {
            any();
        }
    }

    private void tellTown() {
        String text = texts.town();
        if (r.nextInt(4) == 0) {
            text = texts.spoilt(text);
        }
        StringBuilder b = new StringBuilder(text);
        while (b.length() % 20 != 0) {
            b.append((char) (r.nextInt(10) == 0 ? r.nextInt(256) : ' '));
        }
        for (int i = 0; i < b.length(); i += 20) {
            int[] v = new int[5];
            for (int k = 0; k < 20; k++) {
                v[k / 4] = v[k / 4] << 8 | b.charAt(i + k) & 255;
            }
            feed(v);
        }
        int length = r.nextInt(20) == 0 ? oneOf(0, b.length(), b.length() + 1, r.nextInt(b.length() + 1), -1) : text.length();
        same(10, of(length) + " of " + text, x.town(length), n.town(length));
    }

    private void feed(int[] v) {
        same(9, of(v[0], v[1], v[2], v[3], v[4]), x.feed(v[0], v[1], v[2], v[3], v[4]),
                n.feed(v[0], v[1], v[2], v[3], v[4]));
    }

    private void write(int tray, int place, long v) {
        same(6, of(tray, place, v), x.write(tray, place, v), n.write(tray, place, v));
    }

    private void tray(int tray, int sort, int many) {
        same(5, of(tray, sort, many), x.tray(tray, sort, many), n.tray(tray, sort, many));
    }

    private void aNewWay() {
        int tray = r.nextInt(4);
        if (r.nextBoolean()) {
            int many = r.nextInt(3) == 0 ? 1 + r.nextInt(24) : 1 + r.nextInt(4);
            tray(tray, r.nextInt(4), many);
            for (int i = 0; i < many; i++) {
                write(tray, i, r.nextInt(60) == 0 ? 5 : r.nextInt(r.nextBoolean() ? 3 : 5));
            }
            boolean again = r.nextBoolean();
            same(17, of(tray, many, again), x.clock(tray, many, again), n.clock(tray, many, again));
        } else {
            int many = r.nextInt(20) == 0 ? 17 : 18 + r.nextInt(3);
            tray(tray, r.nextInt(4), many);
            for (int i = 0; i < many; i++) {
                write(tray, i, r.nextInt(300) == 0 ? 15 : r.nextInt(15));
            }
            same(18, of(tray), x.sight(tray), n.sight(tray));
        }
    }

    private void any() {
        switch (r.nextInt(34)) {
            case 0 -> tellTown();
            case 1 -> aNewWay();
            case 2 -> anyTray();
            case 3, 4 -> anyTown();
            case 5, 6, 7, 8, 9, 10 -> anyWalk();
            case 11, 12, 13 -> anyLikeness();
            case 14, 15, 16 -> anyRows();
            case 17, 18 -> anyDrawn();
            case 19, 20, 21 -> {
                int places = r.nextInt(10) == 0 ? odd() : 100 * aPlace() + 10 * aPlace() + aPlace();
                int one = aWay();
                int two = aWay();
                int last = aWay();
                same(31, of(one, two, last, places), x.three(one, two, last, places), n.three(one, two, last, places));
            }
            case 22, 23, 24, 25 -> anyValue();
            case 26 -> {
                int one = aWay();
                int other = aWay();
                same(34, of(one, other), x.door(one, other), n.door(one, other));
            }
            case 27, 28 -> {
                int seed = r.nextInt(3) == 0 ? r.nextInt() : r.nextInt(50);
                int a = aPlace();
                int b = aPlace();
                same(35, of(seed, a, b), x.wander(seed, a, b), n.wander(seed, a, b));
            }
            case 29 -> {
                int lane = some(n.town.lanes.size());
                boolean is = r.nextInt(3) != 0;
                same(14, of(lane, is), x.shut(lane, is), n.shut(lane, is));
            }
            case 30 -> {
                boolean are = r.nextInt(3) != 0;
                same(15, of(are), x.marks(are), n.marks(are));
            }
            default -> anyTownCall();
        }
    }

    private void anyTray() {
        int tray = aTray();
        int to = aTray();
        int place = some(66);
        switch (r.nextInt(4)) {
            case 0 -> tray(tray, some(4), r.nextInt(4) == 0 ? some(66) : some(20));
            case 1 -> {
                long v = r.nextLong() >> r.nextInt(64);
                write(tray, place, v);
                same(7, of(tray, place), x.read(tray, place), n.read(tray, place));
            }
            case 2 -> same(7, of(tray, place), x.read(tray, place), n.read(tray, place));
            default -> {
                int i = some(4);
                int j = some(4);
                int many = some(9);
                same(8, of(tray, i, to, j, many), x.pour(tray, i, to, j, many), n.pour(tray, i, to, j, many));
                for (int k = 0; k < 4; k++) {
                    same(7, of(to, k), x.read(to, k), n.read(to, k));
                }
            }
        }
    }

    private void anyTown() {
        if (r.nextInt(12) == 0) {
            tellTown();
        }
        int a = aPlace();
        int b = aPlace();
        int what = some(7);
        same(12, of(what), x.many(what), n.many(what));
        same(13, of(a, what), x.place(a, what), n.place(a, what));
        same(16, of(a, b), x.distance(a, b), n.distance(a, b));
        Seek.due("fault(2)", x.fault(2), n.fault(2));
        Seek.due("fault(-1)", x.fault(-1), n.fault(-1));
    }

    private void anyTownCall() {
        int a = aPlace();
        int b = aPlace();
        same(16, of(a, b), x.distance(a, b), n.distance(a, b));
        if (r.nextInt(20) == 0) {
            feed(new int[] {r.nextInt(), r.nextInt(), r.nextInt(), r.nextInt(), r.nextInt()});
        }
        if (r.nextInt(20) == 0) {
            int k = some(60);
            same(10, of(k), x.town(k), n.town(k));
        }
    }

    private void anyWalk() {
        int one = aWay();
        int other = aWay();
        int a = aPlace();
        int b = aPlace();
        same(19, of(one, other, a, b), x.when(one, other, a, b), n.when(one, other, a, b));
        same(21, of(one, other), x.mean(one, other), n.mean(one, other));
        same(22, of(one, other), x.worst(one, other), n.worst(one, other));
        if (r.nextInt(10) == 0) {
            anyJudge(one, other);
        }
    }

    private void anyJudge(int one, int other) {
        int tray = aTray();
        int places = n.town.places.size();
        if (r.nextInt(6) != 0 && tray >= 0 && tray < 4) {
            tray(tray, 1 + r.nextInt(3), places * places);
            int spoilt = r.nextInt(2 * places * places + 1);
            for (int i = 0; i < places * places; i++) {
                int w = n.when(one, other, i / places, i % places);
                x.when(one, other, i / places, i % places);
                x.write(tray, i, i == spoilt ? w + 1 : w);
                n.write(tray, i, i == spoilt ? w + 1 : w);
            }
        }
        same(20, of(one, other, tray), x.judge(one, other, tray), n.judge(one, other, tray));
    }

    private void anyLikeness() {
        int a = aPlace();
        int b = aPlace();
        int what = some(2);
        same(23, of(a, b), x.same(a, b), n.same(a, b));
        same(28, of(a, b, what), x.parted(a, b, what), n.parted(a, b, what));
    }

    private void anyRows() {
        if (r.nextInt(3) == 0) {
            int many = some(r.nextInt(20) == 0 ? 5 : 3);
            same(24, of(many), x.agreed(many), n.agreed(many));
        } else if (r.nextInt(2) == 0) {
            int many = some(7);
            same(26, of(many), x.alike(many), n.alike(many));
        }
        int who = some(2);
        for (int k = -1; k < 6; k++) {
            same(25, of(who, k), x.step(who, k), n.step(who, k));
            same(27, of(k), x.alikeStep(k), n.alikeStep(k));
        }
    }

    private void anyDrawn() {
        int one = aWay();
        int other = aWay();
        int chances = some(18);
        int ticks = r.nextInt(2) == 0 ? some(26) : some(5);
        int times = some(r.nextInt(6) == 0 ? 7 : 4);
        same(29, of(one, other, chances, ticks, times), x.drawn(one, other, chances, ticks, times),
                n.drawn(one, other, chances, ticks, times));
        if (r.nextInt(6) == 0) {
            int few = some(4);
            same(30, of(one, other, ticks, few), x.bestDrawn(one, other, ticks, few),
                    n.bestDrawn(one, other, ticks, few));
        }
    }

    private void anyValue() {
        int a = aPlace();
        int b = aPlace();
        int tray = aTray();
        int others = aTray();
        int cap = r.nextInt(20) == 0 ? oneOf(0, -1, 101, odd()) : 1 + r.nextInt(r.nextBoolean() ? 100 : 12);
        int many = some(4);
        int otherMany = some(4);
        if (r.nextInt(5) != 0) {
            many = 1 + r.nextInt(3);
            otherMany = 1 + r.nextInt(3);
            waysInto(tray, many);
            if (others != tray) {
                waysInto(others, otherMany);
            }
        }
        same(32, of(tray, many, others, otherMany, a, b, cap), x.value(tray, many, others, otherMany, a, b, cap),
                n.value(tray, many, others, otherMany, a, b, cap));
        for (int k = -1; k < 4; k++) {
            same(33, of(k), x.chance(k), n.chance(k));
        }
    }

    private void waysInto(int tray, int many) {
        int size = r.nextInt(20) == 0 ? many - 1 : 3;
        tray(tray, r.nextInt(4), size);
        for (int i = 0; i < size; i++) {
            write(tray, i, r.nextInt(60) == 0 ? -1 : r.nextInt(n.ways.size() + 1) % Math.max(1, n.ways.size()));
        }
    }
}
