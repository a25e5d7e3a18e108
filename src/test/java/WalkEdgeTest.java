/** The edges that the document names for WAYS and those who walk by them: term 2, promises 15 and 17 to 22. */
public final class WalkEdgeTest {
    private static final int LEAST = Integer.MIN_VALUE;
    private static final int MOST = Integer.MAX_VALUE;
    private static final String TWO = "place a;place b;lane a to b;";
    /** b's LANES: 0 to a, 1 to c. */
    private static final String PATH = "place a;place b;place c;lane a to b;lane b to c;";
    private static final String LONG = "place a;place b;place c;place d;lane a to b;lane b to c;lane c to d;";
    private static final String EIGHT = "place a;place b;place c;place d;place e;place f;place g;place h;";
    /** All four LANES at m. */
    private static final String STAR = "place m;place p;place q;place r;place s;"
            + "lane m to p;lane m to q;lane m to r;lane m to s;";

    public static void main(String[] args) {
        steps();
        atMostTwelve();
        oneTo24();
        beginsAgain();
        waitsForEver();
        clockRefusals();
        clockStepsAreItsOwn();
        moodsAndSights();
        stepAndNextMood();
        sightRefusals();
        meetAtTick0();
        hears();
        hearsThroughOpenLanes();
        marks();
        marksLatest();
        marksSwitch();
        slow();
        slowStands();
        cross();
        never();
        when();
        mean();
        worst();
        fractions();
        judge();
        judgeRefusals();
        Seek.end();
    }

    /** WAYS: 0 waits, 1 to 4 always go by LANE 0 to 3. */
    private static TwoSeek walkers(String text) {
        TwoSeek x = Seek.in(text);
        for (int step = 0; step <= 4; step++) {
            Seek.due("way", Seek.clock(x, true, step), step);
        }
        return x;
    }

    private static void steps() {
        Seek.says("A STEP is 0: to wait, or 1 to 4: to go by LANE 0 to 3 of the PLACE;");
        TwoSeek x = Seek.in(STAR);
        for (int step = 0; step <= 4; step++) {
            Seek.due("way", Seek.clock(x, false, step), step);
        }
        for (int step = 0; step <= 4; step++) {
            for (int b = 1; b <= 4; b++) {
                boolean there = step == b;
                Seek.due(x, "STEP " + step + " to " + b, x.when(step, 0, 0, b), there ? 1 : -1, there ? 0 : 8);
            }
        }
        Seek.says("who has no such LANE there, or one that is SHUT, waits");
        for (int step = 1; step <= 4; step++) {
            Seek.due(x, "STEP " + step + " from q", x.when(step, 0, 2, 0), step == 1 ? 1 : -1, step == 1 ? 0 : 8);
        }
        for (int lane = 0; lane < 4; lane++) {
            x.shut(lane, true);
            for (int step = 1; step <= 4; step++) {
                boolean goes = step != lane + 1;
                Seek.due(x, "SHUT " + lane + ", STEP " + step, x.when(step, 0, 0, step), goes ? 1 : -1, goes ? 0 : 8);
                // who waits in m is met there by one who comes from q, by LANE 1 of m
                boolean met = !goes && lane != 1;
                Seek.due(x, "SHUT " + lane + ", waits by " + step, x.when(step, 1, 0, 2), met ? 1 : -1, met ? 0 : 8);
            }
            x.shut(lane, false);
        }
    }

    private static void atMostTwelve() {
        Seek.says("WAYS, at most 12, numbered as they come");
        TwoSeek x = Seek.in(PATH);
        x.tray(0, 0, 18);
        for (int k = 0; k < 12; k++) {
            // each third one goes by LANE 0, the others wait
            x.write(0, 0, k % 3 == 2 ? 1 : 0);
            Seek.due(x, "WAY " + k, k % 2 == 0 ? x.clock(0, 1, true) : x.sight(0), k, 0);
            Seek.due("so many", x.many(2), k + 1);
        }
        for (int k = 0; k < 12; k++) {
            boolean goes = k % 3 == 2;
            Seek.due(x, "WAY " + k, x.when(k, 0, 0, 1), goes ? 1 : -1, goes ? 0 : 8);
            Seek.due(x, "WAY " + k, x.when(0, k, 1, 2), goes ? 1 : -1, goes ? 0 : 8);
        }
        Seek.says("7 one too many");
        Seek.due(x, "a 13th by the CLOCK", x.clock(0, 1, true), -1, 7);
        Seek.due(x, "a 13th by SIGHT", x.sight(0), -1, 7);
        Seek.due("so many", x.many(2), 12);
        Seek.due(x, "the last", x.when(11, 0, 0, 1), 1, 0);
        Seek.due(x, "none behind it", x.when(12, 0, 0, 1), -1, 2);
    }

    private static void oneTo24() {
        Seek.says("by the CLOCK: a row of 1 to 24 STEPS");
        TwoSeek x = Seek.in(TWO);
        x.tray(0, 1, 25);
        Seek.due(x, "wait", x.clock(0, 1, true), 0, 0);
        for (int many : new int[] {0, -1, 25, LEAST, MOST}) {
            Seek.due(x, many + " STEPS", x.clock(0, many, true), -1, 5);
        }
        x.write(0, 23, 1);
        x.write(0, 24, 99);
        Seek.due(x, "24 STEPS", x.clock(0, 24, false), 1, 0);
        Seek.due(x, "the 24th", x.when(1, 0, 0, 1), 24, 0);
        x.write(0, 0, 1);
        Seek.due(x, "1 STEP", x.clock(0, 1, false), 2, 0);
        Seek.due(x, "the first", x.when(2, 0, 0, 1), 1, 0);
        Seek.due("so many", x.many(2), 3);
    }

    private static void beginsAgain() {
        Seek.says("one behind the other, that begins AGAIN behind its end");
        // FIRST goes in one TICK of each round alone: from a to b, then from b to c
        for (int many = 1; many <= 24; many++) {
            TwoSeek x = walkers("place a;place b;place c;lane b to c;lane a to b;");
            long[] row = new long[many];
            row[0] = 1;
            Seek.due("way", Seek.clock(x, true, row), 5);
            row[0] = 0;
            row[many - 1] = 1;
            Seek.due("way", Seek.clock(x, true, row), 6);
            Seek.due(x, "first of " + many, x.when(5, 0, 0, 1), 1, 0);
            Seek.due(x, "first of " + many + " again", x.when(5, 0, 0, 2), many + 1, 0);
            Seek.due(x, "last of " + many, x.when(0, 6, 1, 0), many, 0);
            Seek.due(x, "last of " + many + " again", x.when(0, 6, 2, 0), 2 * many, 0);
        }
    }

    private static void waitsForEver() {
        Seek.says("or waits there for ever");
        for (int many = 1; many <= 24; many++) {
            TwoSeek x = walkers("place a;place b;place c;lane b to c;lane a to b;");
            long[] row = new long[many];
            row[many - 1] = 1;
            Seek.due("way", Seek.clock(x, false, row), 5);
            Seek.due(x, "the last of " + many, x.when(5, 0, 0, 1), many, 0);
            Seek.due(x, "none behind " + many, x.when(5, 0, 0, 2), -1, 8);
            // it waits in b; SECOND comes from c by LANE 0 in a round of 23 of its own
            long[] late = new long[23];
            late[22] = 1;
            Seek.due("way", Seek.clock(x, true, late), 6);
            Seek.due(x, "it is met there", x.when(5, 6, 0, 2), many == 23 ? 23 : Math.max(many, 23), 0);
        }
        // what the TRAY has behind the row is none of it
        TwoSeek x = walkers(PATH);
        Seek.fill(x, 0, 0, 2, 1, 1, 1);
        Seek.due(x, "one of four", x.clock(0, 1, false), 5, 0);
        Seek.due(x, "it waits in c", x.when(5, 0, 1, 2), 1, 0);
        Seek.due(x, "it waits in c", x.when(5, 0, 1, 0), -1, 8);
        Seek.due(x, "one of four, again", x.clock(0, 1, true), 6, 0);
        Seek.due(x, "LANE 1 alone", x.when(6, 0, 1, 0), -1, 8);
        x = walkers(PATH);
        Seek.due("way", Seek.clock(x, false, 2, 1, 1), 5);
        Seek.due(x, "to a at last", x.when(0, 5, 0, 1), 3, 0);
        Seek.due(x, "a, then b, waiting there", x.when(0, 5, 2, 2), 0, 0);
    }

    private static void clockRefusals() {
        Seek.says("A WAY by the CLOCK, so many STEPS of a TRAY, AGAIN or not: its number"
                + " (1; 3; 5: so many; 4; 5: a number; 7; in this order).");
        TwoSeek x = new TwoSeek();
        Seek.due(x, "1 ahead of all", x.clock(4, 0, true), -1, 1);
        Seek.due(x, "3 ahead of 5", x.clock(0, 0, true), -1, 3);
        Seek.due(x, "3 ahead of 5", x.clock(0, 25, true), -1, 3);
        Seek.fill(x, 0, 3, 4, 0, 5);
        Seek.due(x, "5 ahead of 4", x.clock(0, 25, true), -1, 5);
        Seek.due(x, "4 ahead of 5", x.clock(0, 4, true), -1, 4);
        Seek.due(x, "4", x.clock(0, 24, true), -1, 4);
        Seek.due(x, "5", x.clock(0, 3, true), -1, 5);
        Seek.due(x, "all that there are but the last", x.clock(0, 2, true), 0, 0);
        for (long bad : new long[] {-1, 5, 255, 256, -256, 1L << 32, 1L << 33 | 1, -(1L << 32), Long.MAX_VALUE, Long.MIN_VALUE}) {
            for (int place = 0; place < 3; place++) {
                Seek.fill(x, 0, 3, 4, 0, 1);
                x.write(0, place, bad);
                Seek.due(x, bad + " at " + place, x.clock(0, 3, true), -1, 5);
            }
        }
        Seek.fill(x, 0, 0, 0, 4);
        for (int k = 1; k < 12; k++) {
            Seek.due(x, "0 and 4", x.clock(0, 2, true), k, 0);
        }
        Seek.due(x, "3 ahead of 7", x.clock(1, 1, true), -1, 3);
        Seek.due(x, "5 ahead of 7", x.clock(0, 0, true), -1, 5);
        Seek.due(x, "4 ahead of 7", x.clock(0, 3, true), -1, 4);
        x.write(0, 1, 5);
        Seek.due(x, "5 ahead of 7", x.clock(0, 2, true), -1, 5);
        Seek.due(x, "7", x.clock(0, 1, true), -1, 7);
        Seek.due("twelve", x.many(2), 12);
    }

    private static void clockStepsAreItsOwn() {
        Seek.says("WAYS stay.");
        TwoSeek x = Seek.in(TWO);
        Seek.fill(x, 0, 0, 1, 0);
        Seek.due("way", x.clock(0, 1, true), 0);
        x.write(0, 0, 0);
        Seek.due("way", x.clock(0, 1, true), 1);
        x.tray(0, 1, 0);
        Seek.due(x, "its STEPS are as they were", x.when(0, 1, 0, 1), 1, 0);
        Seek.due(x, "its STEPS are as they were", x.when(1, 1, 0, 1), -1, 8);
    }

    private static void moodsAndSights() {
        Seek.says("by SIGHT: for each of 3 MOODS and 6 SIGHTS (in this order, 18 numbers)");
        for (int sees = 0; sees < 6; sees++) {
            // m's LANES: 0 to the goal, 1 to where one waits for ever, for there is no LANE 1
            TwoSeek x = Seek.in("place m sees " + sees + ";place g;place t sees " + (sees + 1) % 6
                    + ";lane m to g;lane m to t;");
            Seek.due("wait", Seek.clock(x, true, 0), 0);
            long[] all = new long[18];
            java.util.Arrays.fill(all, 2);
            all[sees] = 1;
            Seek.due("way", Seek.sight(x, all), 1);
            Seek.due(x, "MOOD 0, SIGHT " + sees, x.when(1, 0, 0, 1), 1, 0);
            for (int mood = 1; mood < 3; mood++) {
                java.util.Arrays.fill(all, 2);
                all[sees] = 5 * mood;
                all[6 * mood + sees] = 1;
                Seek.due("way", Seek.sight(x, all), 1 + mood);
                Seek.due(x, "MOOD " + mood + ", SIGHT " + sees, x.when(1 + mood, 0, 0, 1), 2, 0);
            }
            java.util.Arrays.fill(all, 2);
            all[sees] = 10;
            all[12 + sees] = 5;
            all[6 + sees] = 1;
            Seek.due("way", Seek.sight(x, all), 4);
            Seek.due(x, "MOODS 0, 2, 1", x.when(4, 0, 0, 1), 3, 0);
            all[6 + sees] = 0;
            Seek.due("way", Seek.sight(x, all), 5);
            Seek.due(x, "MOODS 0, 2, 1, 0, .. wait", x.when(5, 0, 0, 1), -1, 8);
            Seek.due(x, "MOODS 0, 2, 1, 0, .. wait", x.when(5, 0, 0, 2), -1, 8);
        }
        Seek.says("the MOOD is 0 at first");
        TwoSeek x = Seek.in(TWO);
        long[] all = new long[18];
        all[0] = 1 + 10;
        Seek.due("wait", Seek.clock(x, true, 0), 0);
        Seek.due("way", Seek.sight(x, all), 1);
        // it goes in MOOD 0 alone: each walk begins with that, that of SECOND as well
        for (int k = 0; k < 3; k++) {
            Seek.due(x, "FIRST", x.when(1, 0, 0, 1), 1, 0);
            Seek.due(x, "SECOND", x.when(0, 1, 0, 1), 1, 0);
        }
    }

    private static void stepAndNextMood() {
        Seek.says("a STEP and 5 times the next MOOD (0 to 14)");
        // from m (which sees 5) to p, q, r, s (which see 0), their LANES: 0 to m, 1 to h, where it waits
        String town = "place m sees 5;place p;place q;place r;place s;place h sees 4;"
                + "lane m to p;lane m to q;lane m to r;lane m to s;lane p to h;lane q to h;lane r to h;lane s to h;";
        for (int v = 0; v <= 14; v++) {
            TwoSeek x = Seek.in(town);
            Seek.due("wait", Seek.clock(x, true, 0), 0);
            long[] all = new long[18];
            all[5] = v;
            // MOOD 1: waits a TICK, is in MOOD 2 then; MOOD 2: goes on to h; in m: to p, to q
            all[6] = 10;
            all[12] = 2 + 10;
            all[11] = 1;
            all[17] = 2;
            Seek.due("way", Seek.sight(x, all), 1);
            int step = v % 5;
            int mood = v / 5;
            for (int b = 1; b <= 4 && step > 0; b++) {
                Seek.due(x, v + " to " + b, x.when(1, 0, 0, b), b == step ? 1 : -1, b == step ? 0 : 8);
            }
            if (step > 0) {
                Seek.due(x, v + " to h", x.when(1, 0, 0, 5), mood == 0 ? -1 : 4 - mood, mood == 0 ? 8 : 0);
            } else {
                Seek.due(x, v + " to p", x.when(1, 0, 0, 1), mood == 1 ? 2 : -1, mood == 1 ? 0 : 8);
                Seek.due(x, v + " to q", x.when(1, 0, 0, 2), mood == 2 ? 2 : -1, mood == 2 ? 0 : 8);
            }
        }
    }

    private static void sightRefusals() {
        Seek.says("A WAY by SIGHT, 18 numbers of a TRAY: its number (1; 3; 4; 5; 7).");
        TwoSeek x = new TwoSeek();
        for (int tray : new int[] {-1, 4, LEAST, MOST}) {
            Seek.due(x, "TRAY " + tray, x.sight(tray), -1, 1);
        }
        Seek.due(x, "MISSING", x.sight(0), -1, 3);
        for (int many : new int[] {0, 1, 17}) {
            x.tray(0, 3, many);
            if (many > 0) {
                x.write(0, 0, 15);
            }
            Seek.due(x, many + " numbers: 4 ahead of 5", x.sight(0), -1, 4);
        }
        x.tray(0, 3, 18);
        for (long bad : new long[] {-1, 15, 256, 1L << 32, -(1L << 32), Long.MAX_VALUE, Long.MIN_VALUE}) {
            for (int place : new int[] {0, 5, 6, 17}) {
                x.write(0, place, bad);
                Seek.due(x, bad + " at " + place, x.sight(0), -1, 5);
                x.write(0, place, 14);
            }
        }
        Seek.due(x, "18 numbers, 0 and 14", x.sight(0), 0, 0);
        x.tray(0, 3, 64);
        x.write(0, 18, 15);
        for (int k = 1; k < 12; k++) {
            Seek.due(x, "18 of 64 numbers", x.sight(0), k, 0);
        }
        Seek.due(x, "7", x.sight(0), -1, 7);
        x.write(0, 17, 15);
        Seek.due(x, "5 ahead of 7", x.sight(0), -1, 5);
        x.tray(0, 3, 17);
        Seek.due(x, "4 ahead of 7", x.sight(0), -1, 4);
        Seek.due(x, "3 ahead of 7", x.sight(1), -1, 3);
        Seek.due(x, "1 ahead of 7", x.sight(4), -1, 1);
        Seek.due("twelve", x.many(2), 12);
    }

    private static void meetAtTick0() {
        Seek.says("They MEET at TICK 0, if these are one.");
        TwoSeek x = walkers(STAR + "hears 3;slow 4;cross;");
        x.marks(true);
        for (int way = 0; way <= 4; way++) {
            for (int p = 0; p <= 4; p++) {
                Seek.due(x, "WAYS " + way + " from " + p, x.when(way, 4 - way, p, p), 0, 0);
            }
        }
        Seek.says("FIRST by one WAY, SECOND by one (perhaps the same)");
        x = Seek.in(PATH);
        Seek.due("way", Seek.clock(x, false, 1, 2), 0);
        Seek.due(x, "the same WAY, each at its own place of it", x.when(0, 0, 0, 2), 1, 0);
        Seek.due(x, "the same WAY: FIRST in c, SECOND in a, both wait", x.when(0, 0, 0, 1), -1, 8);
        Seek.due(x, "the same WAY: both in b, then in c", x.when(0, 0, 2, 0), 1, 0);
    }

    private static void hears() {
        Seek.says("If it is at most what hears tells: FIRST waits, SECOND goes by its first LANE that leads nearer");
        String path = EIGHT + "lane a to b;lane b to c;lane c to d;lane d to e;lane e to f;lane f to g;lane g to h;";
        for (int hears = 0; hears <= 3; hears++) {
            TwoSeek x = walkers(path + "hears " + hears + ";");
            for (int a = 0; a < 8; a++) {
                for (int b = 0; b < 8; b++) {
                    int d = Math.abs(a - b);
                    boolean is = d <= hears;
                    Seek.due(x, "hears " + hears + " from " + a + " and " + b, x.when(0, 0, a, b), is ? d : -1, is ? 0 : 8);
                }
            }
        }
        // FIRST, whose WAY goes by LANE 0 for ever, waits as soon as it hears: SECOND comes all the way
        TwoSeek x = walkers("place a;place b;place c;place d;lane a to b;lane c to b;lane d to c;lane d to a;hears 2;");
        for (int b = 1; b <= 3; b++) {
            int due = b == 2 ? 2 : 1;
            Seek.due(x, "FIRST waits in a, SECOND in " + b, x.when(1, 0, 0, b), due, 0);
            Seek.due(x, "SECOND leaves its WAY", x.when(1, 1, 0, b), due, 0);
        }
    }

    private static void hearsThroughOpenLanes() {
        Seek.says("DISTANCE is how many LANES that are not SHUT lead from one to the other at least.");
        TwoSeek x = walkers("place a;place b;place c;place d;lane a to b;lane b to c;lane c to d;lane d to a;hears 1;");
        Seek.due(x, "next to one another", x.when(0, 0, 0, 3), 1, 0);
        x.shut(3, true);
        Seek.due(x, "three LANES off", x.when(0, 0, 0, 3), -1, 8);
        Seek.town(x, "place a;place b;place c;place d;lane a to b;lane b to c;lane c to d;lane d to a;hears 3;");
        x.shut(3, true);
        Seek.due(x, "comes all round", x.when(0, 0, 0, 3), 3, 0);
        x.shut(1, true);
        Seek.due(x, "no LANES lead there", x.when(0, 0, 0, 3), -1, 8);
        Seek.due(x, "they lead here", x.when(0, 0, 0, 1), 1, 0);
    }

    private static void marks() {
        Seek.says("SECOND, if MARKS are on and FIRST has left the PLACE where SECOND is:"
                + " it goes by the LANE (if that is not SHUT) by which FIRST left it latest");
        // FIRST goes from b to d, by LANE 1 and LANE 1, and waits there; SECOND begins in a and goes by LANE 0
        TwoSeek x = walkers(LONG);
        Seek.due("way", Seek.clock(x, false, 2, 2), 5);
        Seek.due(x, "MARKS off", x.when(5, 1, 1, 0), -1, 8);
        x.marks(true);
        Seek.due(x, "MARKS on: b, c, d", x.when(5, 1, 1, 0), 3, 0);
        // who does not come where FIRST was finds no MARK
        Seek.due(x, "waits in a", x.when(5, 0, 1, 0), -1, 8);
        // FIRST goes by no MARK: SECOND leaves b, c for d; FIRST comes to b and goes back
        Seek.due(x, "SECOND's are none", x.when(1, 5, 0, 1), -1, 8);
        // FIRST waited: the PLACE where it began is not left
        Seek.due("way", Seek.clock(x, false, 4, 0, 3, 2), 6);
        Seek.due(x, "FIRST has not left b yet", x.when(6, 1, 1, 0), 1, 0);
        // the MARK in b leads to c in the TICK behind that in which FIRST left
        Seek.due(x, "on FIRST's heels", x.when(2, 1, 1, 0), 3, 0);
        x = walkers(LONG + "cross;");
        x.marks(true);
        Seek.due(x, "on FIRST's heels till it turns", x.when(1, 1, 1, 2), 2, 0);
    }

    private static void marksLatest() {
        Seek.says("by which FIRST left it latest");
        // b's LANES: 0 to a, 1 to c, 2 to d; FIRST: b, a, b, c and waits there
        TwoSeek x = walkers("place a;place b;place c;place d;lane b to a;lane b to c;lane b to d;");
        Seek.due("way", Seek.clock(x, false, 1, 1, 2), 5);
        Seek.due("way", Seek.clock(x, false, 0, 0, 0, 1), 6);
        x.marks(true);
        Seek.due(x, "c, not a", x.when(5, 6, 1, 3), 5, 0);
        // SECOND comes to b in TICK 0 already: to a, while FIRST comes back; to b, while FIRST goes to c; to c
        Seek.due(x, "a, then c", x.when(5, 1, 1, 3), 4, 0);
        Seek.town(x, "place a;place b;place c;place d;lane b to a;lane b to c;lane b to d;cross;");
        x.marks(true);
        Seek.due(x, "they cross between a and b", x.when(5, 1, 1, 3), 2, 0);
    }

    private static void marksSwitch() {
        Seek.says("MARKS are on, or off.");
        TwoSeek x = walkers(LONG);
        Seek.due("way", Seek.clock(x, false, 2, 2), 5);
        for (int k = 0; k < 3; k++) {
            Seek.due(x, "off", x.marks(false), true, 0);
            Seek.due(x, "off", x.when(5, 1, 1, 0), -1, 8);
            Seek.due(x, "on", x.marks(true), true, 0);
            Seek.due(x, "on again", x.marks(true), true, 0);
            Seek.due(x, "on", x.when(5, 1, 1, 0), 3, 0);
        }
        // each walk begins without MARKS of that ahead of it
        Seek.due(x, "b to d", x.when(5, 1, 1, 0), 3, 0);
        Seek.due(x, "no MARKS of FIRST in b now", x.when(0, 1, 3, 0), -1, 8);
        TwoSeek y = new TwoSeek();
        Seek.due(y, "without a TOWN", y.marks(true), true, 0);
        Seek.due(y, "without a TOWN", y.marks(false), true, 0);
    }

    private static void slow() {
        Seek.says("In a TICK whose number is not a multiple of slow SECOND does nothing of all this, it stands"
                + " (and its WAY does not go on).");
        String path = EIGHT + "lane b to a;lane c to b;lane d to c;lane e to d;lane f to e;lane g to f;lane h to g;";
        for (int slow = 1; slow <= 4; slow++) {
            TwoSeek x = walkers(path + "slow " + slow + ";");
            // all go by LANE 0 towards a; SECOND's k-th STEP is done in TICK (k - 1) times slow
            for (int b = 1; b < 8; b++) {
                Seek.due(x, "SECOND, slow " + slow, x.when(0, 1, 0, b), (b - 1) * slow + 1, 0);
                Seek.due(x, "FIRST is not slow", x.when(1, 0, b, 0), b, 0);
            }
            Seek.due("way", Seek.clock(x, true, 0, 0, 1), 5);
            Seek.due(x, "SECOND's third STEP", x.when(0, 5, 0, 1), 2 * slow + 1, 0);
            Seek.due(x, "SECOND's sixth STEP", x.when(0, 5, 0, 2), 5 * slow + 1, 0);
        }
    }

    private static void slowStands() {
        Seek.says("SECOND does nothing of all this, it stands");
        // by hearing: the TICKS in which SECOND comes nearer are 0, slow, ..; FIRST waits in each
        for (int slow = 1; slow <= 4; slow++) {
            TwoSeek x = walkers(LONG + "hears 3;slow " + slow + ";");
            for (int b = 1; b <= 3; b++) {
                Seek.due(x, "hears, slow " + slow, x.when(1, 0, 0, b), (b - 1) * slow + 1, 0);
            }
            // by MARKS: FIRST goes from b to d and waits; SECOND is in b with TICK 0, in d two STEPS later
            x = walkers(LONG + "slow " + slow + ";");
            Seek.due("way", Seek.clock(x, false, 2, 2), 5);
            x.marks(true);
            Seek.due(x, "MARKS, slow " + slow, x.when(5, 1, 1, 0), 2 * slow + 1, 0);
        }
        // who stands can be met
        TwoSeek x = walkers(TWO + "slow 2;");
        Seek.due(x, "both go in TICK 0, FIRST alone in TICK 1", x.when(1, 1, 0, 1), 2, 0);
    }

    private static void cross() {
        Seek.says("or, with cross, if each went to where the other one was");
        TwoSeek x = walkers(PATH);
        Seek.due(x, "without", x.when(1, 1, 0, 1), -1, 8);
        Seek.town(x, PATH + "cross;");
        Seek.due(x, "with", x.when(1, 1, 0, 1), 1, 0);
        Seek.due(x, "with", x.when(1, 1, 1, 0), 1, 0);
        Seek.due(x, "one waits, one comes", x.when(0, 1, 0, 1), 1, 0);
        Seek.due(x, "one goes to where the other was, who goes on", x.when(1, 2, 0, 1), -1, 8);
        Seek.due(x, "none goes", x.when(0, 0, 0, 1), -1, 8);
        Seek.town(x, "place a;place b;place c;lane a to b;lane b to c;lane c to a;cross;");
        // by LANES 0 and 1 round and round behind one another: none comes to the other
        Seek.due("way", Seek.clock(x, true, 1, 2, 2), 5);
        Seek.due("way", Seek.clock(x, true, 2, 2, 1), 6);
        Seek.due(x, "one behind the other", x.when(5, 6, 0, 1), -1, 8);
        x = walkers(TWO + "cross;slow 2;");
        Seek.due("way", Seek.clock(x, true, 0, 1), 5);
        Seek.due(x, "SECOND stands: it is come to", x.when(5, 0, 0, 1), 2, 0);
    }

    private static void never() {
        Seek.says("NEVER is it, if they have not met in 200 TICKS.");
        // FIRST goes from h towards a by one STEP in each round of 24: its seventh one is done in TICK 144
        // and later, SECOND's, who is slow, in a round of 8, in TICK 192 and later
        String path = EIGHT + "lane b to a;lane c to b;lane d to c;lane e to d;lane f to e;lane g to f;lane h to g;";
        for (int first = 0; first < 24; first++) {
            TwoSeek x = Seek.in(path);
            long[] row = new long[24];
            row[first] = 1;
            Seek.due("way", Seek.clock(x, true, row), 0);
            Seek.due("wait", Seek.clock(x, true, 0), 1);
            Seek.due(x, "in TICK " + (144 + first), x.when(0, 1, 7, 0), 145 + first, 0);
        }
        for (int first = 0; first < 8; first++) {
            TwoSeek x = Seek.in(path + "slow 4;");
            long[] row = new long[8];
            row[first] = 1;
            Seek.due("way", Seek.clock(x, true, row), 0);
            Seek.due("wait", Seek.clock(x, true, 0), 1);
            int tick = 4 * (48 + first);
            Seek.due(x, "in TICK " + tick, x.when(1, 0, 0, 7), tick < 200 ? tick + 1 : -1, tick < 200 ? 0 : 8);
        }
        // both go to b and back, in rounds of 24 and of 23, which fall together in one TICK of 552 alone
        for (int tick = 196; tick <= 203; tick++) {
            TwoSeek x = Seek.in(PATH);
            Seek.due("way", thereAndBack(x, 24, tick % 24, 1, 1), 0);
            Seek.due("way", thereAndBack(x, 23, tick % 23, 1, 2), 1);
            Seek.due(x, "in TICK " + tick, x.when(0, 1, 0, 2), tick < 200 ? tick + 1 : -1, tick < 200 ? 0 : 8);
        }
    }

    private static int thereAndBack(TwoSeek x, int many, int tick, int there, int back) {
        long[] row = new long[many];
        row[tick] = there;
        row[tick + 1] = back;
        return Seek.clock(x, true, row);
    }

    private static void when() {
        Seek.says("WHEN two WAYS MEET from two PLACES (2; 8).");
        TwoSeek x = walkers(PATH);
        for (int bad : new int[] {-1, 5, 12, LEAST, MOST}) {
            Seek.due(x, "WAY " + bad, x.when(bad, 0, 0, 0), -1, 2);
            Seek.due(x, "the other WAY " + bad, x.when(0, bad, 0, 0), -1, 2);
        }
        for (int bad : new int[] {-1, 3, 8, LEAST, MOST}) {
            Seek.due(x, "PLACE " + bad, x.when(0, 0, bad, 0), -1, 2);
            Seek.due(x, "the other PLACE " + bad, x.when(0, 0, 0, bad), -1, 2);
        }
        Seek.due(x, "the last WAY and PLACE", x.when(4, 4, 2, 2), 0, 0);
        Seek.due(x, "2 ahead of 8", x.when(0, 0, 0, 3), -1, 2);
        Seek.due(x, "8", x.when(0, 0, 0, 2), -1, 8);
    }

    private static void mean() {
        Seek.says("none if from one that is likely (above 0) it is NEVER");
        TwoSeek x = walkers("place a first 1 second 0;place b first 0;place c first 0 second 0;lane a to b;");
        Seek.due(x, "c is not likely", x.mean(0, 1), true, 0);
        Seek.dueFraction(x, "c is not likely", 1, 1);
        Seek.due("WORST", x.worst(0, 1), 1);
        Seek.town(x, "place a first 1 second 0;place b first 0;place c first 0 second 1;lane a to b;");
        Seek.due(x, "a and c are likely", x.mean(0, 1), false, 9);
        Seek.due(x, "a and c are likely", x.worst(0, 1), -1, 9);
        Seek.town(x, "place a first 9 second 9;place b first 0 second 0;");
        Seek.due(x, "a and a alone", x.mean(0, 0), true, 0);
        Seek.dueFraction(x, "a and a alone", 0, 1);
        Seek.says("The FRACTION is the MEAN (2; 9: there is none, or no beginning is likely).");
        for (String none : new String[] {"place a first 0;", "place a second 0;", "place a first 0;place b second 0 first 0;"}) {
            Seek.town(x, none);
            Seek.due(x, "no beginning is likely", x.mean(0, 0), false, 9);
            Seek.due(x, "no beginning is likely", x.worst(0, 0), -1, 9);
            Seek.due(x, "2 ahead of 9", x.mean(5, 0), false, 2);
            Seek.due(x, "2 ahead of 9", x.worst(0, 5), -1, 2);
        }
        x.town(0);
        Seek.due(x, "no PLACES", x.mean(0, 0), false, 9);
        Seek.due(x, "no PLACES", x.worst(0, 0), -1, 9);
        for (int bad : new int[] {-1, 5, 12, LEAST, MOST}) {
            Seek.due(x, "WAY " + bad, x.mean(bad, 0), false, 2);
            Seek.due(x, "the other WAY " + bad, x.mean(0, bad), false, 2);
            Seek.due(x, "WAY " + bad, x.worst(bad, 0), -1, 2);
            Seek.due(x, "the other WAY " + bad, x.worst(0, bad), -1, 2);
        }
        // eight PLACES, all likelihoods 9: 8 and 8 meet at 0, the others by hearing; a ring of 8 in 3 at most
        x = walkers("place a first 9 second 9;place b first 9 second 9;lane a to b;hears 1;");
        Seek.due(x, "the greatest likelihoods", x.mean(0, 0), true, 0);
        Seek.dueFraction(x, "the greatest likelihoods", 1, 2);
    }

    private static void worst() {
        Seek.says("WORST: the greatest of these.");
        TwoSeek x = walkers(LONG + "hears 3;");
        Seek.due(x, "a and d", x.worst(0, 0), 3, 0);
        Seek.town(x, "place a second 0;place b first 0 second 0;place c first 0;place d first 0 second 0;"
                + "lane a to b;lane b to c;lane c to d;hears 3;");
        Seek.due(x, "a and c alone are likely", x.worst(0, 0), 2, 0);
        Seek.town(x, "place a;place b second 9;place c second 0;lane b to a;lane c to b;");
        Seek.due(x, "not the likeliest, nor the last", x.worst(1, 0), 2, 0);
        Seek.due(x, "SECOND never comes to c", x.worst(0, 1), -1, 9);
        Seek.town(x, "place a;");
        Seek.due(x, "one PLACE", x.worst(0, 0), 0, 0);
        Seek.town(x, "place a first 9 second 9;place b first 0 second 0;lane a to b;");
        Seek.due(x, "a and a alone are likely", x.worst(0, 1), 0, 0);
    }

    private static void fractions() {
        Seek.says("FRACTIONS are told by top() and bottom() without a common divisor, the bottom above 0; 0 is 0 by 1.");
        TwoSeek x = walkers("place a first 6 second 0;place b first 4 second 5;lane a to b;");
        // 6 times 5 of 10 times 5 meet in 1 TICK
        x.mean(0, 1);
        Seek.dueFraction(x, "30 by 50", 3, 5);
        Seek.town(x, "place a first 9 second 0;place b first 0 second 9;lane a to b;");
        x.mean(0, 1);
        Seek.dueFraction(x, "81 by 81", 1, 1);
        Seek.town(x, "place a first 9 second 9;");
        x.mean(0, 1);
        Seek.dueFraction(x, "0 by 81", 0, 1);
        Seek.town(x, "place a first 7 second 0;place b first 2;lane a to b;");
        x.mean(0, 1);
        Seek.dueFraction(x, "7 by 9", 7, 9);
        Seek.town(x, "place a first 9 second 0;place b first 0 second 0;place c first 0 second 5;lane b to a;lane c to b;");
        x.mean(0, 1);
        Seek.dueFraction(x, "90 by 45", 2, 1);
        x.mean(0, 0);
        Seek.dueFraction(x, "as it was", 2, 1);
    }

    private static void judge() {
        Seek.says("the first beginning (8 times FIRST's PLACE and SECOND's) for which a TRAY (places by PLACES, times how"
                + " many there are, and SECOND's) does not tell WHEN, or -1 for NEVER; STATUS 0 also with NONE: all are right");
        String path = EIGHT + "lane a to b;lane b to c;lane c to d;lane d to e;lane e to f;lane f to g;lane g to h;hears 3;";
        for (int sort = 0; sort <= 3; sort++) {
            TwoSeek x = walkers(path);
            x.tray(0, sort, 64);
            for (int i = 0; i < 64; i++) {
                int d = Math.abs(i / 8 - i % 8);
                x.write(0, i, d <= 3 ? d : -1);
            }
            Seek.due(x, "all are right", x.judge(0, 0, 0), -1, 0);
            int[] wrong = {63, 56, 40, 17, 8, 7, 0};
            for (int i : wrong) {
                x.write(0, i, 5);
                Seek.due(x, "the first is " + i, x.judge(0, 0, 0), i, 0);
            }
            x.write(0, 0, 0);
            Seek.due(x, "the first is 7 again", x.judge(0, 0, 0), 7, 0);
        }
        TwoSeek x = walkers(TWO);
        Seek.fill(x, 0, 3, 0, -1, -1, 0, 5);
        Seek.due(x, "all are right of five numbers", x.judge(0, 0, 0), -1, 0);
        x.write(0, 2, 1);
        Seek.due(x, "b and a", x.judge(0, 0, 0), 8, 0);
        x.write(0, 2, -1);
        x.write(0, 3, 1L << 32);
        Seek.due(x, "b and b, all 64 bits", x.judge(0, 0, 0), 9, 0);
        x.write(0, 3, 0);
        x.write(0, 1, 0xffffffffL);
        Seek.due(x, "a and b, all 64 bits", x.judge(0, 0, 0), 1, 0);
        x.write(0, 1, 200);
        Seek.due(x, "NEVER is -1, not 200", x.judge(0, 0, 0), 1, 0);
    }

    private static void judgeRefusals() {
        Seek.says("all are right (1; 2; 3; 4; in this order).");
        TwoSeek x = walkers(PATH);
        for (int bad : new int[] {-1, 4, LEAST, MOST}) {
            Seek.due(x, "1 ahead of 2", x.judge(9, 9, bad), -1, 1);
        }
        for (int bad : new int[] {-1, 5, 12, LEAST, MOST}) {
            Seek.due(x, "2 ahead of 3", x.judge(bad, 0, 0), -1, 2);
            Seek.due(x, "2 ahead of 3", x.judge(0, bad, 0), -1, 2);
        }
        Seek.due(x, "MISSING", x.judge(0, 0, 0), -1, 3);
        x.tray(0, 0, 8);
        Seek.due(x, "2 ahead of 4", x.judge(5, 0, 0), -1, 2);
        Seek.due(x, "eight of nine", x.judge(0, 0, 0), -1, 4);
        x.tray(0, 0, 9);
        Seek.due(x, "nine of nine", x.judge(0, 0, 0), 1, 0);
        x.town(0);
        x.tray(0, 0, 0);
        Seek.due(x, "none of none", x.judge(0, 0, 0), -1, 0);
    }
}
