/** The edges that the document names for DRAWN, THREE, SHY, DOOR, WANDER: term 4, promises 29 to 35. */
public final class LotEdgeTest {
    private static final int LEAST = Integer.MIN_VALUE;
    private static final int MOST = Integer.MAX_VALUE;
    private static final String TWO = "place a;place b;lane a to b;";
    private static final String PATH = "place a;place b;place c;lane a to b;lane b to c;";
    private static final String ENDS = "place a second 0;place b first 0 second 0;place c first 0;lane a to b;lane b to c;";
    private static final String LONG = "place a;place b;place c;place d;lane a to b;lane b to c;lane c to d;";
    private static final String EIGHT = "place a;place b;place c;place d;place e;place f;place g;place h;";
    private static final String[] UNLIKELY = {"place a first 0;", "place a second 0;", "place a first 0;place b second 0 first 0;"};

    public static void main(String[] args) {
        chancesOf16();
        ticks();
        drawnFromItsBeginning();
        times();
        drawnByRules();
        drawnRefusals();
        bestOf16();
        bestRefusals();
        threeHoldOn();
        threeByRules();
        threeNever();
        threePlaces();
        shyOneToThree();
        shyCap();
        shyChances();
        shyThreeByThree();
        shyRefusals();
        chanceRefusals();
        doorIsBetter();
        doorLeast();
        doorRefusals();
        wanders();
        wanderSeeds();
        wanderLimit();
        Seek.end();
    }

    /** WAYS: 0 waits, 1 and 2 always go by LANE 0 and 1. */
    private static TwoSeek walkers(String text) {
        TwoSeek x = Seek.in(text);
        for (int step = 0; step <= 2; step++) {
            Seek.due("way", Seek.clock(x, true, step), step);
        }
        return x;
    }

    private static void drawn(TwoSeek x, String what, int one, int other, int n, int ticks, int times, long top, long bottom) {
        Seek.due(x, what, x.drawn(one, other, n, ticks, times), true, 0);
        Seek.dueFraction(x, what, top, bottom);
    }

    private static void chancesOf16() {
        Seek.says("one WAY (n chances of 16) or another one");
        TwoSeek x = walkers(ENDS);
        // both go: they meet in b
        for (int n = 0; n <= 16; n++) {
            int g = n * n == 0 ? 256 : Integer.lowestOneBit(n * n | 256);
            drawn(x, n + " of 16", 1, 0, n, 1, 1, n * n / g, 256 / g);
            int m = (16 - n) * (16 - n);
            g = Integer.lowestOneBit(m | 256);
            drawn(x, n + " of 16 wait", 0, 1, n, 1, 1, m / g, 256 / g);
        }
        // the same WAY twice is drawn for certain
        drawn(x, "the same WAY", 1, 1, 5, 1, 1, 1, 1);
        for (int bad : new int[] {-1, 17, LEAST, MOST}) {
            Seek.due(x, bad + " of 16", x.drawn(1, 0, bad, 1, 1), false, 5);
        }
        Seek.dueFraction(x, "as it was", 1, 1);
    }

    private static void ticks() {
        Seek.says("walk it so many TICKS (1 to 24)");
        for (int many = 1; many <= 24; many++) {
            TwoSeek x = walkers(ENDS);
            long[] row = new long[many];
            row[many - 1] = 1;
            Seek.due("way", Seek.clock(x, false, row), 3);
            drawn(x, "as many TICKS as it takes", 3, 0, 16, many, 1, 1, 1);
            drawn(x, "by 24 TICKS", 3, 0, 16, 24, 1, 1, 1);
            if (many > 1) {
                drawn(x, "one TICK too few", 3, 0, 16, many - 1, 5, 0, 1);
            }
        }
        TwoSeek x = walkers(ENDS);
        for (int bad : new int[] {0, -1, 25, LEAST, MOST}) {
            Seek.due(x, bad + " TICKS", x.drawn(1, 0, 16, bad, 1), false, 5);
            Seek.due(x, bad + " TICKS", x.bestDrawn(1, 0, bad, 1), -1, 5);
        }
    }

    private static void drawnFromItsBeginning() {
        Seek.says("from its beginning, then draw anew");
        // FIRST comes from a by LANE 1 of each place but f, which has none, and where SECOND waits
        String far = "place z first 0 second 0;place a second 0;place b first 0 second 0;place c first 0 second 0;"
                + "place d first 0 second 0;place e first 0 second 0;place f first 0;"
                + "lane z to a;lane a to b;lane b to c;lane c to d;lane d to e;lane e to f;";
        TwoSeek x = walkers(far);
        Seek.due("way", Seek.clock(x, false, 2, 0), 3);
        Seek.due("way", Seek.clock(x, false, 0, 2), 4);
        long[] all = new long[18];
        all[0] = 2 + 5;
        all[6] = 5;
        Seek.due("way", Seek.sight(x, all), 5);
        for (int times = 1; times <= 5; times++) {
            int top = times == 5 ? 1 : 0;
            drawn(x, "a STEP each time", 2, 0, 16, 1, times, top, 1);
            drawn(x, "begun again: its first STEP", 3, 0, 16, 1, times, top, 1);
            drawn(x, "begun again: one STEP of two", 3, 0, 16, 2, times, top, 1);
            drawn(x, "begun again: the second of two", 4, 0, 16, 2, times, top, 1);
            drawn(x, "begun again: never its second STEP", 4, 0, 16, 1, times, 0, 1);
            drawn(x, "begun again: MOOD 0", 5, 0, 16, 1, times, top, 1);
            drawn(x, "begun again: MOOD 0, then MOOD 1", 5, 0, 16, 24, times, top, 1);
        }
    }

    private static void times() {
        Seek.says("so many times (1 to 5)");
        TwoSeek x = walkers("place a second 0;place b first 0;lane a to b;");
        long apart = 1;
        long whole = 1;
        for (int times = 1; times <= 5; times++) {
            apart *= 5;
            whole *= 8;
            // 4 of 16 go: one of both goes alone with 2 times 1 by 4 times 3 by 4, 3 by 8
            drawn(x, "times " + times, 1, 0, 4, 1, times, whole - apart, whole);
        }
        for (int bad : new int[] {0, -1, 6, LEAST, MOST}) {
            Seek.due(x, bad + " times", x.drawn(1, 0, 16, 1, bad), false, 5);
            Seek.due(x, bad + " times", x.bestDrawn(1, 0, 1, bad), -1, 5);
        }
        Seek.says("the CHANCE that they have met by then, by all likely beginnings");
        Seek.town(x, "place a first 9 second 9;place b first 9 second 9;place c first 9 second 9;place d first 9 second 9;"
                + "place e first 9 second 9;place f first 9 second 9;place g first 9 second 9;place h first 9 second 9;"
                + "lane a to b;");
        // 8 of 64 are together; a and b, b and a meet with 1 - (1 - 2 * 7 * 9 by 256) to the 5th
        long not = power(130, 5);
        long one = 1L << 40;
        drawn(x, "the greatest numbers", 1, 0, 7, 1, 5, (8 * one + 2 * (one - not)) / 64, one);
        Seek.town(x, "place a first 9 second 9;");
        drawn(x, "together at first", 0, 0, 0, 1, 1, 1, 1);
    }

    private static long power(long v, int times) {
        return times == 0 ? 1 : v * power(v, times - 1);
    }

    private static void drawnByRules() {
        Seek.says("(slow 1, cross as told, no hearing, no MARKS): a FRACTION");
        TwoSeek x = walkers(TWO);
        String one = "place a second 0;place b first 0;lane a to b;";
        for (int slow = 1; slow <= 4; slow++) {
            Seek.town(x, one + "hears 3;slow " + slow + ";");
            x.marks(true);
            drawn(x, "both wait", 0, 0, 16, 24, 5, 0, 1);
            drawn(x, "both go, none stands", 1, 1, 16, 24, 5, 0, 1);
            Seek.town(x, one + "cross;slow " + slow + ";");
            drawn(x, "both go and cross", 1, 1, 16, 1, 1, 1, 1);
            drawn(x, "both wait", 0, 0, 16, 1, 1, 0, 1);
        }
        // FIRST goes from b to d; by MARKS SECOND would follow it
        Seek.town(x, "place a first 0;place b second 0;place c first 0 second 0;place d first 0 second 0;"
                + "lane a to b;lane b to c;lane c to d;");
        x.marks(true);
        Seek.due("way", Seek.clock(x, false, 2, 2), 3);
        Seek.due("way", Seek.clock(x, true, 1), 4);
        // 3 and 4: FIRST in d, SECOND in a or b; 3 and 3: SECOND waits in a; 4 and 3, 4 and 4: meet or change
        Seek.due(x, "MARKS", x.when(3, 4, 1, 0), 3, 0);
        drawn(x, "4 and 4", 4, 4, 16, 24, 1, 0, 1);
        drawn(x, "3 and 3", 3, 3, 16, 24, 1, 0, 1);
    }

    private static void drawnRefusals() {
        Seek.says("n of 16 for WAY one, else the other, so many TICKS, so many times (2; 5; 9: no beginning is likely).");
        TwoSeek x = walkers(ENDS);
        x.drawn(1, 0, 8, 1, 1);
        Seek.dueFraction(x, "8 of 16", 1, 4);
        for (int bad : new int[] {-1, 3, 12, LEAST, MOST}) {
            Seek.due(x, "WAY " + bad, x.drawn(bad, 0, 8, 1, 1), false, 2);
            Seek.due(x, "the other " + bad, x.drawn(0, bad, 8, 1, 1), false, 2);
            Seek.due(x, "2 ahead of 5", x.drawn(bad, 0, 17, 0, 0), false, 2);
        }
        for (String town : UNLIKELY) {
            Seek.town(x, town);
            Seek.due(x, "none is likely", x.drawn(1, 0, 8, 1, 1), false, 9);
            Seek.due(x, "5 ahead of 9", x.drawn(1, 0, 17, 1, 1), false, 5);
            Seek.due(x, "5 ahead of 9", x.drawn(1, 0, 8, 25, 1), false, 5);
            Seek.due(x, "5 ahead of 9", x.drawn(1, 0, 8, 1, 6), false, 5);
            Seek.due(x, "2 ahead of 9", x.drawn(3, 0, 8, 1, 1), false, 2);
        }
        x.town(0);
        Seek.due(x, "no PLACES", x.drawn(1, 0, 8, 1, 1), false, 9);
        Seek.dueFraction(x, "as it was", 1, 4);
    }

    private static void bestOf16() {
        Seek.says("BEST n: 0 to 16 with the greatest CHANCE; of several the least.");
        TwoSeek x = walkers(ENDS);
        Seek.due(x, "all go", x.bestDrawn(1, 0, 1, 1), 16, 0);
        Seek.dueFraction(x, "all go", 1, 1);
        Seek.due(x, "none waits", x.bestDrawn(0, 1, 1, 1), 0, 0);
        Seek.dueFraction(x, "none waits", 1, 1);
        Seek.due(x, "the least of all", x.bestDrawn(1, 1, 1, 1), 0, 0);
        Seek.dueFraction(x, "the least of all", 1, 1);
        Seek.due(x, "the least of those with none", x.bestDrawn(0, 0, 24, 5), 0, 0);
        Seek.dueFraction(x, "the least of those with none", 0, 1);
        Seek.town(x, "place a second 0;place b first 0;lane a to b;");
        Seek.due(x, "half of them", x.bestDrawn(1, 0, 1, 1), 8, 0);
        Seek.dueFraction(x, "half of them", 1, 2);
        Seek.due(x, "half of them, five times", x.bestDrawn(1, 0, 1, 5), 8, 0);
        Seek.dueFraction(x, "half of them, five times", 31, 32);
        // by 1 and by 2 to a place each: meeting with 1 and 1, 2 and 2, worst with half
        Seek.town(x, "place a second 0;place b first 0;place c first 0 second 0;place d first 0 second 0;"
                + "lane a to c;lane b to c;lane a to d;lane b to d;");
        Seek.due(x, "0 and 16 are as good", x.bestDrawn(1, 2, 1, 1), 0, 0);
        Seek.dueFraction(x, "0 and 16 are as good", 1, 1);
    }

    private static void bestRefusals() {
        Seek.says("BEST n; the FRACTION is its CHANCE (2; 5; 9).");
        TwoSeek x = walkers(ENDS);
        x.drawn(1, 0, 8, 1, 1);
        for (int bad : new int[] {-1, 3, 12, LEAST, MOST}) {
            Seek.due(x, "WAY " + bad, x.bestDrawn(bad, 0, 1, 1), -1, 2);
            Seek.due(x, "the other " + bad, x.bestDrawn(0, bad, 1, 1), -1, 2);
            Seek.due(x, "2 ahead of 5", x.bestDrawn(0, bad, 0, 6), -1, 2);
        }
        for (String town : UNLIKELY) {
            Seek.town(x, town);
            Seek.due(x, "none is likely", x.bestDrawn(1, 0, 1, 1), -1, 9);
            Seek.due(x, "5 ahead of 9", x.bestDrawn(1, 0, 0, 1), -1, 5);
            Seek.due(x, "5 ahead of 9", x.bestDrawn(1, 0, 1, 0), -1, 5);
            Seek.due(x, "2 ahead of 9", x.bestDrawn(3, 0, 1, 1), -1, 2);
        }
        x.town(0);
        Seek.due(x, "no PLACES", x.bestDrawn(1, 0, 1, 1), -1, 9);
        Seek.dueFraction(x, "as it was", 1, 4);
    }

    private static void threeHoldOn() {
        Seek.says("who are in one PLACE behind a TICK (or at first) hold on: all of them go on by the least one's WAY,"
                + " as far as that has gone.");
        TwoSeek x = walkers(LONG);
        Seek.due("way", Seek.clock(x, false, 0, 0, 1), 3);
        Seek.due("way", Seek.clock(x, false, 1), 4);
        Seek.due("way", Seek.clock(x, false, 1, 1, 1), 5);
        // at first: the second and the third in d, the first waits in c
        Seek.due(x, "the third is led to c", x.three(0, 3, 0, 233), 3, 0);
        Seek.due(x, "the third is held in d", x.three(0, 0, 1, 233), -1, 8);
        Seek.due(x, "the second is led to c by the first", x.three(3, 0, 0, 332), 3, 0);
        Seek.due(x, "the second is held in d by the first", x.three(0, 1, 0, 332), -1, 8);
        Seek.due(x, "the third is led to c by the first", x.three(3, 0, 1, 323), 3, 0);
        Seek.due(x, "the third is held in d by the first", x.three(0, 0, 1, 323), -1, 8);
        // behind TICK 0: one comes from c to b, is led on to a with TICK 2, the third STEP of the WAY there
        Seek.due(x, "the third comes to the second", x.three(0, 3, 4, 12), 3, 0);
        Seek.due(x, "the second comes to the third, whose WAY is not gone any more", x.three(0, 4, 3, 21), -1, 8);
        Seek.due(x, "the second comes to the third, and leads it", x.three(0, 5, 0, 21), 2, 0);
        Seek.due(x, "the second comes to the first", x.three(3, 4, 0, 120), 3, 0);
        Seek.due(x, "the third comes to the first", x.three(3, 0, 4, 102), 3, 0);
        Seek.due(x, "the first comes to the second, and leads it", x.three(5, 0, 0, 210), 2, 0);
        Seek.due(x, "the first comes to the third, and leads it", x.three(5, 0, 0, 201), 2, 0);
        // the second and the third from c by LANE 0 to b, then on: by the second's WAY, not by the third's
        Seek.due("way", Seek.clock(x, true, 2), 6);
        Seek.due(x, "by the second's", x.three(0, 5, 6, 23), -1, 8);
        Seek.due(x, "all at first", x.three(1, 2, 3, 222), 0, 0);
        Seek.due(x, "all behind TICK 0, the third held", x.three(0, 4, 4, 101), 1, 0);
        Seek.due(x, "two alone behind TICK 0", x.three(0, 4, 2, 120), -1, 8);
        Seek.due(x, "all behind TICK 0", x.three(0, 4, 4, 120), 1, 0);
    }

    private static void threeByRules() {
        Seek.says("THREE walk by a WAY each (slow 1, no hearing, MARKS, nor crossing)");
        TwoSeek x = walkers(TWO);
        Seek.due("way", Seek.clock(x, true, 0, 1), 3);
        for (int slow = 1; slow <= 4; slow++) {
            Seek.town(x, TWO + "cross;hears 3;slow " + slow + ";");
            Seek.due(x, "no crossing", x.three(1, 1, 1, 11), -1, 8);
            Seek.due(x, "no hearing", x.three(0, 0, 0, 11), -1, 8);
            Seek.due(x, "not slow", x.three(0, 3, 0, 11), 2, 0);
            Seek.due(x, "not slow", x.three(0, 3, 3, 11), 2, 0);
            Seek.due(x, "not slow", x.three(0, 0, 3, 1), 2, 0);
        }
        Seek.town(x, LONG);
        Seek.due("way", Seek.clock(x, false, 2, 2), 4);
        x.marks(true);
        Seek.due(x, "MARKS for two", x.when(4, 1, 1, 0), 3, 0);
        Seek.due(x, "no MARKS for three", x.three(4, 1, 1, 100), -1, 8);
        x.shut(0, true);
        Seek.due(x, "SHUT LANES are SHUT", x.three(0, 1, 1, 11), -1, 8);
        Seek.due(x, "others are not", x.three(0, 2, 2, 211), 1, 0);
    }

    private static int thereAndBack(TwoSeek x, int many, int tick, int there, int back) {
        long[] row = new long[many];
        row[tick] = there;
        row[tick + 1] = back;
        return Seek.clock(x, true, row);
    }

    private static void threeNever() {
        Seek.says("WHEN all three are in one PLACE.");
        // they go to b and back, in rounds of 24 and of 23, which fall together in one TICK of 552 alone
        for (int tick = 196; tick <= 203; tick++) {
            TwoSeek x = Seek.in(PATH);
            Seek.due("way", thereAndBack(x, 24, tick % 24, 1, 1), 0);
            Seek.due("way", thereAndBack(x, 23, tick % 23, 1, 2), 1);
            int due = tick < 200 ? tick + 1 : -1;
            int status = tick < 200 ? 0 : 8;
            Seek.due(x, "in TICK " + tick, x.three(0, 1, 1, 22), due, status);
            Seek.due(x, "in TICK " + tick, x.three(0, 1, 0, 22), due, status);
            Seek.due(x, "in TICK " + tick, x.three(0, 0, 1, 2), due, status);
        }
    }

    private static void threePlaces() {
        Seek.says("by three WAYS from three PLACES: 100 times FIRST's, 10 times the second's, the third's"
                + " (2: also a number that is none such; 8).");
        TwoSeek x = walkers(EIGHT);
        for (int p = 0; p < 8; p++) {
            Seek.due(x, "all in " + p, x.three(0, 1, 2, 111 * p), 0, 0);
        }
        int[] none = {8, 9, 10 * 8, 79, 90, 97, 778, 787, 800, 877, 900, 999, 1000, 1777, 7770, -1, -7, -77, -777, -1000,
            LEAST, MOST, 10000, 1 << 20};
        for (int places : none) {
            Seek.due(x, "places " + places, x.three(0, 1, 2, places), -1, 2);
        }
        for (int bad : new int[] {-1, 3, 12, LEAST, MOST}) {
            Seek.due(x, "FIRST's WAY " + bad, x.three(bad, 0, 0, 0), -1, 2);
            Seek.due(x, "the second's WAY " + bad, x.three(0, bad, 0, 0), -1, 2);
            Seek.due(x, "the third's WAY " + bad, x.three(0, 0, bad, 0), -1, 2);
        }
        Seek.due(x, "8", x.three(0, 0, 0, 7), -1, 8);
        Seek.due(x, "2 ahead of 8", x.three(0, 0, 0, 8), -1, 2);
        x = walkers(LONG);
        Seek.due("way", Seek.clock(x, false, 1, 1, 2, 1, 1), 3);
        Seek.due("way", Seek.clock(x, false, 1, 1, 1), 4);
        Seek.due(x, "the first comes from d", x.three(4, 0, 0, 300), 3, 0);
        Seek.due(x, "the second comes from d", x.three(0, 4, 0, 30), 3, 0);
        Seek.due(x, "the third comes from d", x.three(0, 0, 4, 3), 3, 0);
        for (int places : new int[] {4, 40, 400, 34, 340, 403}) {
            Seek.due(x, "no PLACE 4: " + places, x.three(0, 0, 0, places), -1, 2);
        }
        x.town(0);
        Seek.due(x, "no PLACES", x.three(0, 0, 0, 0), -1, 2);
    }

    /** TRAY 0: FIRST's WAYS, TRAY 1: SECOND's. */
    private static void picks(TwoSeek x, long[] ways, long[] others) {
        Seek.fill(x, 0, 3, ways);
        Seek.fill(x, 1, 0, others);
    }

    private static void value(TwoSeek x, int cap, long top, long bottom, long... chances) {
        int many = chances.length / 2;
        int otherMany = 0;
        while (otherMany < 3 && x.read(1, otherMany) >= 0) {
            otherMany++;
        }
        Seek.due(x, "value", x.value(0, many, 1, otherMany, 0, 1, cap), true, 0);
        Seek.dueFraction(x, "VALUE", top, bottom);
        for (int k = 0; k < many; k++) {
            Seek.due(x, "chance " + k, x.chance(k), true, 0);
            Seek.dueFraction(x, "CHANCE " + k, chances[2 * k], chances[2 * k + 1]);
        }
        Seek.due(x, "chance " + many, x.chance(many), false, 8);
    }

    private static long[] of(long... all) {
        return all;
    }

    private static void shyOneToThree() {
        Seek.says("of so many WAYS (1 to 3, a TRAY) FIRST picks one, of so many others (1 to 3) SECOND one, neither knowing");
        TwoSeek x = walkers(TWO);
        // WAY 0 waits, 1 goes; who wait and go meet in 1 TICK, others never
        picks(x, of(0), of(0));
        value(x, 9, 9, 1, 1, 1);
        picks(x, of(0), of(1));
        value(x, 9, 1, 1, 1, 1);
        picks(x, of(0), of(0, 1));
        value(x, 9, 9, 1, 1, 1);
        picks(x, of(0), of(1, 0));
        value(x, 9, 9, 1, 1, 1);
        picks(x, of(1), of(1, 1, 0));
        value(x, 9, 9, 1, 1, 1);
        picks(x, of(1), of(0, 0, 1));
        value(x, 9, 9, 1, 1, 1);
        picks(x, of(0, 1), of(0));
        value(x, 9, 1, 1, 0, 1, 1, 1);
        picks(x, of(0, 1), of(0, 1));
        value(x, 9, 5, 1, 1, 2, 1, 2);
        picks(x, of(0, 0, 1), of(0, 1, 1));
        value(x, 9, 5, 1, 1, 2, 0, 1, 1, 2);
        picks(x, of(1, 0, 0), of(1, 0, 1));
        value(x, 9, 5, 1, 1, 2, 1, 2, 0, 1);
        picks(x, of(0, 0, 0), of(1, 1, 1));
        value(x, 9, 1, 1, 1, 1, 0, 1, 0, 1);
        picks(x, of(0, 1, 1), of(1, 1, 1));
        value(x, 9, 1, 1, 1, 1, 0, 1, 0, 1);
        picks(x, of(0, 1, 0), of(0, 1, 0));
        for (int bad : new int[] {0, -1, 4, LEAST, MOST}) {
            Seek.due(x, bad + " WAYS", x.value(0, bad, 1, 1, 0, 1, 9), false, 5);
            Seek.due(x, bad + " others", x.value(0, 1, 1, bad, 0, 1, 9), false, 5);
        }
        Seek.due(x, "FIRST's alone as many as there are", x.value(0, 3, 1, 1, 0, 1, 9), true, 0);
        Seek.due(x, "SECOND's alone as many as there are", x.value(0, 1, 1, 3, 0, 1, 9), true, 0);
        Seek.due(x, "from one TRAY", x.value(0, 3, 0, 3, 0, 1, 9), true, 0);
        Seek.dueFraction(x, "from one TRAY", 5, 1);
    }

    private static void shyCap() {
        Seek.says("it is worth WHEN, but at most a CAP (1 to 100; so is NEVER)");
        TwoSeek x = walkers("place a;place h;place b;place c;place d;place e;place f;place g;"
                + "lane a to b;lane c to b;lane d to c;lane e to d;lane f to e;lane g to f;lane h to g;");
        // all LANES 0 lead from h to b; from b LANE 0 to a: seven TICKS
        picks(x, of(0), of(1));
        for (int cap = 1; cap <= 100; cap++) {
            value(x, cap, Math.min(cap, 7), 1, 1, 1);
        }
        picks(x, of(0), of(0));
        for (int cap : new int[] {1, 2, 50, 99, 100}) {
            value(x, cap, cap, 1, 1, 1);
        }
        for (int bad : new int[] {0, -1, 101, LEAST, MOST}) {
            Seek.due(x, "CAP " + bad, x.value(0, 1, 1, 1, 0, 1, bad), false, 5);
        }
        Seek.due(x, "together at first", x.value(0, 1, 1, 1, 7, 7, 1), true, 0);
        Seek.dueFraction(x, "together at first", 0, 1);
        for (int tick : new int[] {98, 99, 100, 150}) {
            x = Seek.in("place a;place c;place b;lane a to b;lane b to c;");
            Seek.due("way", thereAndBack(x, 24, tick % 24, 1, 1), 0);
            Seek.due("way", thereAndBack(x, 23, tick % 23, 1, 2), 1);
            picks(x, of(0), of(1));
            Seek.due(x, "WHEN", x.when(0, 1, 0, 1), tick + 1, 0);
            value(x, 100, Math.min(tick + 1, 100), 1, 1, 1);
        }
        Seek.says("SHY:");
        // WHEN by all rules: slow, hearing, MARKS, cross
        x = walkers(TWO + "cross;");
        picks(x, of(1), of(1));
        value(x, 9, 1, 1, 1, 1);
        x = walkers(TWO + "slow 2;");
        picks(x, of(1), of(1));
        value(x, 9, 2, 1, 1, 1);
        x = walkers(TWO + "hears 1;");
        picks(x, of(0), of(0));
        value(x, 9, 1, 1, 1, 1);
        x = walkers("place b;place a;place c;place d;lane a to b;lane b to c;lane c to d;");
        Seek.due("way", Seek.clock(x, false, 2, 2), 3);
        x.marks(true);
        picks(x, of(3), of(1));
        value(x, 9, 3, 1, 1, 1);
    }

    private static void shyChances() {
        Seek.says("(of all with which it is worth no more than VALUE those with which the first WAY's is greatest,"
                + " then the second's)");
        TwoSeek x = walkers(TWO);
        // with a CAP of 1 all is worth 1
        picks(x, of(0, 1, 0), of(0, 1));
        value(x, 1, 1, 1, 1, 1, 0, 1, 0, 1);
        // against one who waits: WAY 0 is worth 9, the others 1
        picks(x, of(0, 1, 1), of(0));
        value(x, 9, 1, 1, 0, 1, 1, 1, 0, 1);
        picks(x, of(1, 0, 1), of(0));
        value(x, 9, 1, 1, 1, 1, 0, 1, 0, 1);
        picks(x, of(0, 0, 1), of(0));
        value(x, 9, 1, 1, 0, 1, 0, 1, 1, 1);
        // WAY 3 waits, then goes: against one who waits 2, against one who goes 1; WAY 0: 5 and 1; WAY 1: 1 and 5
        Seek.due("way", Seek.clock(x, false, 0, 1), 3);
        picks(x, of(3, 0, 1), of(0, 1));
        value(x, 5, 9, 5, 4, 5, 0, 1, 1, 5);
        picks(x, of(0, 3, 1), of(0, 1));
        value(x, 5, 9, 5, 0, 1, 4, 5, 1, 5);
        picks(x, of(0, 1, 3), of(0, 1));
        value(x, 5, 9, 5, 0, 1, 1, 5, 4, 5);
        // with a CAP of 2 WAYS 3 and 0 are as good: 2 and 1; WAY 1: 1 and 2
        picks(x, of(3, 0, 1), of(0, 1));
        value(x, 2, 3, 2, 1, 2, 0, 1, 1, 2);
        picks(x, of(1, 3, 0), of(0, 1));
        value(x, 2, 3, 2, 1, 2, 1, 2, 0, 1);
    }

    private static void shyThreeByThree() {
        Seek.says("FIRST would have it least, SECOND most, both by chances: the VALUE");
        // both go to p, q or r, by STEP 1, 2, 3, and wait there; n's LANES are like m's
        TwoSeek x = Seek.in("place m;place n;place p;place q;place r;lane m to p;lane m to q;lane m to r;"
                + "lane n to p;lane n to q;lane n to r;");
        for (int step = 0; step <= 3; step++) {
            Seek.due("way", Seek.clock(x, false, step), step);
        }
        Seek.due("way", Seek.clock(x, false, 0, 3), 4);
        picks(x, of(1, 2, 3), of(1, 2, 3));
        value(x, 4, 3, 1, 1, 3, 1, 3, 1, 3);
        picks(x, of(3, 1, 2), of(1, 2, 3));
        value(x, 100, 67, 1, 1, 3, 1, 3, 1, 3);
        // r is come to in the second TICK: 3 - 2 by 4, by 4, 3 - 1 by 2
        picks(x, of(1, 2, 4), of(1, 2, 3));
        value(x, 3, 5, 2, 1, 4, 1, 4, 1, 2);
        picks(x, of(4, 2, 1), of(3, 1, 2));
        value(x, 3, 5, 2, 1, 2, 1, 4, 1, 4);
        // who waits is never met: SECOND's third WAY makes it a CAP; all are alike then
        picks(x, of(1, 2, 3), of(1, 2, 0));
        value(x, 7, 7, 1, 1, 1, 0, 1, 0, 1);
        picks(x, of(0, 1, 2), of(1, 2, 2));
        value(x, 7, 4, 1, 0, 1, 1, 2, 1, 2);
    }

    private static void shyRefusals() {
        Seek.says("(1; 2: a PLACE; 3; 5: so many, CAP; 4; 2: a WAY; in this order, each asked of FIRST's TRAY ahead).");
        TwoSeek x = walkers(TWO);
        x.mean(0, 0);
        for (int bad : new int[] {-1, 4, LEAST, MOST}) {
            Seek.due(x, "1 ahead of 2", x.value(bad, 0, 0, 0, 9, 9, 0), false, 1);
            Seek.due(x, "1 ahead of 2", x.value(0, 0, bad, 0, 9, 9, 0), false, 1);
        }
        for (int bad : new int[] {-1, 2, 8, LEAST, MOST}) {
            Seek.due(x, "2 ahead of 3", x.value(0, 0, 1, 0, bad, 0, 0), false, 2);
            Seek.due(x, "2 ahead of 3", x.value(0, 0, 1, 0, 0, bad, 0), false, 2);
        }
        Seek.due(x, "3 ahead of 5", x.value(0, 0, 1, 0, 0, 0, 0), false, 3);
        x.tray(0, 3, 2);
        Seek.due(x, "3 ahead of 5", x.value(0, 0, 1, 0, 0, 0, 0), false, 3);
        Seek.due(x, "3 ahead of 5", x.value(1, 4, 0, 4, 0, 0, 101), false, 3);
        x.tray(1, 3, 2);
        Seek.due(x, "5 ahead of 4", x.value(0, 3, 1, 3, 0, 0, 0), false, 5);
        Seek.due(x, "5 ahead of 4", x.value(0, 3, 1, 3, 0, 0, 101), false, 5);
        Seek.due(x, "5 ahead of 4", x.value(0, 4, 1, 3, 0, 0, 1), false, 5);
        Seek.due(x, "5 ahead of 4", x.value(0, 3, 1, 4, 0, 0, 1), false, 5);
        x.write(0, 0, 9);
        x.write(1, 0, 9);
        Seek.due(x, "4 ahead of 2", x.value(0, 3, 1, 1, 0, 0, 1), false, 4);
        Seek.due(x, "4 ahead of 2", x.value(0, 1, 1, 3, 0, 0, 1), false, 4);
        for (long bad : new long[] {-1, 3, 12, 1L << 32, -(1L << 32), Long.MIN_VALUE, Long.MAX_VALUE}) {
            for (int place = 0; place < 2; place++) {
                Seek.fill(x, 0, 3, 0, 0, 0);
                Seek.fill(x, 1, 3, 0, 0, 0);
                x.write(0, place, bad);
                Seek.due(x, "no WAY of FIRST's", x.value(0, 2, 1, 2, 0, 0, 1), false, 2);
                x.write(0, place, 2);
                x.write(1, place, bad);
                Seek.due(x, "no WAY of SECOND's", x.value(0, 2, 1, 2, 0, 0, 1), false, 2);
            }
        }
        x.write(0, 1, 99);
        x.write(1, 1, -99);
        Seek.due(x, "those alone that are picked from", x.value(0, 1, 1, 1, 0, 0, 1), true, 0);
    }

    private static void chanceRefusals() {
        Seek.says("The FRACTION is the CHANCE of FIRST's k-th WAY, by value() latest with STATUS 0 (8: none such).");
        TwoSeek x = walkers(TWO);
        for (int k : new int[] {-1, 0, 1, 2, 3, LEAST, MOST}) {
            Seek.due(x, "none yet: " + k, x.chance(k), false, 8);
        }
        picks(x, of(0, 1, 1), of(0, 1));
        x.value(0, 3, 1, 2, 0, 1, 9);
        for (int k : new int[] {-1, 3, 4, LEAST, MOST}) {
            Seek.due(x, "chance " + k, x.chance(k), false, 8);
        }
        Seek.dueFraction(x, "as it was", 5, 1);
        Seek.due(x, "chance 2", x.chance(2), true, 0);
        Seek.dueFraction(x, "chance 2", 0, 1);
        x.value(0, 1, 1, 2, 0, 2, 9);
        x.value(0, 1, 1, 2, 0, 1, 0);
        x.town(0);
        x.value(0, 1, 1, 2, 0, 1, 9);
        Seek.due(x, "a refused value() is none", x.chance(2), true, 0);
        Seek.due(x, "a refused value() is none", x.chance(0), true, 0);
        Seek.dueFraction(x, "a refused value() is none", 1, 2);
        Seek.town(x, TWO);
        x.value(0, 2, 1, 1, 0, 1, 9);
        Seek.due(x, "two WAYS then", x.chance(2), false, 8);
        Seek.due(x, "two WAYS then", x.chance(1), true, 0);
        Seek.dueFraction(x, "two WAYS then", 1, 1);
    }

    private static final String FORK = "place a second 0;place b first 0;place c first 0 second 0;lane b to c;lane b to a;";

    private static void doorIsBetter() {
        Seek.says("if it is less than with none; NONE else (an NEVER counts as no MEAN, above all others)");
        TwoSeek x = walkers(FORK);
        // SECOND from b by 1 and 2: to c, waits, back to b, to a; with LANE 0 SHUT: waits, to a
        Seek.due("way", Seek.clock(x, true, 1, 2), 3);
        Seek.due(x, "less", x.door(0, 3), 0, 0);
        Seek.dueFraction(x, "less", 2, 1);
        Seek.due(x, "it is open again", x.when(0, 3, 0, 1), 4, 0);
        Seek.due(x, "with LANE 0 SHUT it is none", x.door(0, 2), -1, 0);
        Seek.dueFraction(x, "with LANE 0 SHUT it is the same", 1, 1);
        Seek.due(x, "by LANE 0 to c and back: NEVER, with LANE 0 SHUT as well", x.door(0, 1), -1, 9);
        Seek.due("way", Seek.clock(x, false, 1, 2), 4);
        Seek.due(x, "NEVER with none", x.mean(0, 4), false, 9);
        Seek.due(x, "less than NEVER", x.door(0, 4), 0, 0);
        Seek.dueFraction(x, "less than NEVER", 2, 1);
        Seek.town(x, "place a;");
        Seek.due(x, "no LANES", x.door(0, 0), -1, 0);
        Seek.dueFraction(x, "no LANES", 0, 1);
        Seek.town(x, "place a;place b;");
        Seek.due(x, "no LANES, NEVER", x.door(0, 0), -1, 9);
        Seek.town(x, "place a second 0;place b first 0;lane a to b;");
        Seek.due(x, "NEVER with the one LANE SHUT", x.door(0, 1), -1, 0);
        Seek.dueFraction(x, "NEVER with the one LANE SHUT", 1, 1);
        Seek.due(x, "it is open", x.distance(0, 1), 1, 0);
    }

    private static void doorLeast() {
        Seek.says("DOOR: the LANE (of several alike the least) with which, SHUT besides, MEAN of two WAYS is least");
        // d to h are all joined, far from all this; LANE 11 leads from b to c, by 2, and back by 1
        TwoSeek x = walkers("place a second 0;place b first 0;place c first 0 second 0;place d first 0 second 0;"
                + "place e first 0 second 0;place f first 0 second 0;place g first 0 second 0;place h first 0 second 0;"
                + "lane a to b;lane d to e;lane d to f;lane d to g;lane d to h;lane e to f;lane e to g;lane e to h;"
                + "lane f to g;lane f to h;lane g to h;lane b to c;");
        Seek.due("LANES", x.many(1), 12);
        Seek.due("way", Seek.clock(x, true, 2, 1), 3);
        Seek.due(x, "the last", x.door(0, 3), 11, 0);
        Seek.dueFraction(x, "the last", 2, 1);
        x.shut(11, true);
        Seek.due(x, "it is SHUT already", x.door(0, 3), -1, 0);
        Seek.dueFraction(x, "it is SHUT already", 2, 1);
        Seek.due(x, "it is SHUT still", x.distance(1, 2), -1, 8);
        // SECOND by 1 from b and from d to c, and back by 1: each SHUT, the other one is as bad
        x = walkers("place a second 0;place b first 0;place c first 0 second 0;place d first 0;place e first 0 second 0;"
                + "lane b to c;lane d to e;lane b to a;lane d to a;");
        Seek.due("way", Seek.clock(x, true, 1, 2), 3);
        Seek.due(x, "of two alike the least", x.door(0, 3), 0, 0);
        Seek.dueFraction(x, "of two alike the least", 3, 1);
        x.shut(0, true);
        Seek.due(x, "SHUT besides", x.door(0, 3), 1, 0);
        Seek.dueFraction(x, "SHUT besides", 2, 1);
        // d is likelier than b: its LANE is the better one
        x = walkers("place a second 0;place b first 0;place c first 0 second 0;place d first 0 second 9;"
                + "place e first 0 second 0;lane b to c;lane d to e;lane b to a;lane d to a;");
        Seek.due("way", Seek.clock(x, true, 1, 2), 3);
        Seek.due(x, "the better one", x.door(0, 3), 1, 0);
        Seek.dueFraction(x, "the better one", 11, 5);
    }

    private static void doorRefusals() {
        Seek.says("DOOR of two WAYS; the FRACTION is the MEAN then (2; 9: there is none with any); STATUS 0 also with NONE:"
                + " none is better.");
        TwoSeek x = walkers(FORK);
        x.mean(0, 2);
        for (int bad : new int[] {-1, 3, 12, LEAST, MOST}) {
            Seek.due(x, "WAY " + bad, x.door(bad, 0), -1, 2);
            Seek.due(x, "the other " + bad, x.door(0, bad), -1, 2);
        }
        for (String town : UNLIKELY) {
            Seek.town(x, town);
            Seek.due(x, "none is likely", x.door(0, 0), -1, 9);
            Seek.due(x, "2 ahead of 9", x.door(0, 3), -1, 2);
        }
        x.town(0);
        Seek.due(x, "no PLACES", x.door(0, 0), -1, 9);
        Seek.town(x, FORK);
        Seek.due(x, "there is none with any", x.door(0, 0), -1, 9);
        Seek.dueFraction(x, "as it was", 1, 1);
    }

    /** What the document says of s, once more. */
    private static int wander(long seed, int[][] to, int a, int b, boolean cross) {
        long s = seed;
        int p = a;
        int q = b;
        for (int tick = 0; tick <= 1000; tick++) {
            if (p == q) {
                return tick;
            }
            s = (s * 1103515245L + 12345) % (1L << 31);
            int p2 = to[p][(int) (s / 65536 % 5)];
            s = (s * 1103515245L + 12345) % (1L << 31);
            int q2 = to[q][(int) (s / 65536 % 5)];
            if (cross && p2 == q && q2 == p && tick < 1000) {
                return tick + 1;
            }
            p = p2;
            q = q2;
        }
        return -1;
    }

    private static void wanders() {
        Seek.says("s (at first the seed) becomes s times 1,103,515,245 and 12,345, rounded on at 31 bits (0 and above),"
                + " the STEP is s by 65,536, of that the rest by 5; FIRST draws ahead of SECOND");
        int[][] star = {{0, 1, 2, 3, 4}, {1, 0, 1, 1, 1}, {2, 0, 2, 2, 2}, {3, 0, 3, 3, 3}, {4, 0, 4, 4, 4}};
        int[] seeds = {0, 1, 2, 65535, 65536, 12345, 1 << 30, (1 << 30) - 1, MOST, MOST - 1, 1103515245, 2000000000};
        for (String rule : new String[] {"", "cross;", "slow 4;hears 3;", "cross;slow 2;hears 1;"}) {
            TwoSeek x = Seek.in("place m;place p;place q;place r;place s;lane m to p;lane m to q;lane m to r;lane m to s;" + rule);
            x.marks(true);
            for (int seed : seeds) {
                for (int a = 0; a < 2; a++) {
                    for (int b = 0; b < 5; b++) {
                        int due = wander(seed, star, a, b, rule.startsWith("cross"));
                        Seek.due(x, "seed " + seed + rule, x.wander(seed, a, b), due, 0);
                    }
                }
            }
        }
    }

    private static void wanderSeeds() {
        Seek.says("WANDER (2; 5: a seed below 0; 8: not met in 1,000).");
        TwoSeek x = Seek.in(PATH);
        for (int bad : new int[] {-1, 3, 8, LEAST, MOST}) {
            Seek.due(x, "PLACE " + bad, x.wander(0, bad, 0), -1, 2);
            Seek.due(x, "the other " + bad, x.wander(0, 0, bad), -1, 2);
            Seek.due(x, "2 ahead of 5", x.wander(-1, 0, bad), -1, 2);
        }
        for (int seed : new int[] {-1, -2, LEAST, LEAST + 1}) {
            Seek.due(x, "seed " + seed, x.wander(seed, 0, 1), -1, 5);
            Seek.due(x, "seed " + seed + ", though they are together", x.wander(seed, 1, 1), -1, 5);
        }
        Seek.due(x, "seed 0", x.wander(0, 2, 2), 0, 0);
        Seek.due(x, "the greatest seed", x.wander(MOST, 2, 2), 0, 0);
        x.shut(0, true);
        Seek.due(x, "not met", x.wander(0, 0, 1), -1, 8);
        Seek.due(x, "not met", x.wander(MOST, 2, 0), -1, 8);
        Seek.due(x, "together at first", x.wander(5, 0, 0), 0, 0);
    }

    private static void wanderLimit() {
        Seek.says("WHEN, in at most 1,000 TICKS.");
        // of all 2 to the 31st seeds these need longest from one end of eight PLACES in a row to the other:
        // none comes near 1,000
        TwoSeek x = Seek.in(EIGHT + "lane a to b;lane b to c;lane c to d;lane d to e;lane e to f;lane f to g;lane g to h;");
        int[][] row = new int[8][5];
        for (int p = 0; p < 8; p++) {
            for (int k = 0; k < 5; k++) {
                row[p][k] = p;
            }
            row[p][1] = p == 0 ? 1 : p - 1;
            row[p][2] = p == 0 || p == 7 ? p : p + 1;
        }
        int[] seeds = {1446239089, 1621430743, 2086256045, 1916728435, 1284138191};
        int[] due = {676, 675, 674, 673, 671};
        for (int k = 0; k < seeds.length; k++) {
            Seek.due("seed " + seeds[k], wander(seeds[k], row, 0, 7, false), due[k]);
            Seek.due(x, "seed " + seeds[k], x.wander(seeds[k], 0, 7), due[k], 0);
        }
        x.shut(3, true);
        for (int seed = 0; seed < 20; seed++) {
            Seek.due(x, "never from one half to the other", x.wander(seed, 0, 7), -1, 8);
        }
    }
}
