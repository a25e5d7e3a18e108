/** The edges that the document names for TRAYS: term 1's first words, promises 1 to 8. */
public final class TrayEdgeTest {
    private static final int[] NO_TRAYS = {-1, 4, 5, Integer.MIN_VALUE, Integer.MAX_VALUE};
    private static final int LEAST = Integer.MIN_VALUE;
    private static final int MOST = Integer.MAX_VALUE;

    public static void main(String[] args) {
        fourTrays();
        missingAtFirst();
        fourSorts();
        cutToTheSort();
        aNewObject();
        statusOfTheLatest();
        callsWithoutStatus();
        atMost64();
        allZero();
        lengthBelowZero();
        trayRefusals();
        placesOfATray();
        noneFromMinusOne();
        pourSoMany();
        pourNone();
        pourToTheSame();
        pourUnlikeSorts();
        pourOrder();
        pourTooFew();
        the512thCall();
        Seek.end();
    }

    private static TwoSeek with(int tray, int sort, int many) {
        TwoSeek x = new TwoSeek();
        Seek.due(x, "tray", x.tray(tray, sort, many), true, 0);
        return x;
    }

    /** A TRAY of so many: 1, 2, 3 .. */
    private static void count(TwoSeek x, int tray, int sort, int many) {
        x.tray(tray, sort, many);
        for (int i = 0; i < many; i++) {
            x.write(tray, i, i + 1);
        }
    }

    private static void row(TwoSeek x, int tray, long... due) {
        for (int i = 0; i < due.length; i++) {
            Seek.due(x, "place " + i + " of tray " + tray, x.read(tray, i), due[i], 0);
        }
        Seek.due(x, "no more in tray " + tray, x.read(tray, due.length), -1, 4);
    }

    private static void fourTrays() {
        Seek.says("TRAYS, 0 to 3,");
        TwoSeek x = new TwoSeek();
        for (int t = 0; t <= 3; t++) {
            Seek.due(x, "tray " + t, x.tray(t, 0, 1), true, 0);
        }
        for (int t = 0; t <= 3; t++) {
            Seek.due(x, "write to " + t, x.write(t, 0, t + 1), true, 0);
        }
        for (int t = 0; t <= 3; t++) {
            Seek.due(x, "each is its own: " + t, x.read(t, 0), t + 1, 0);
            Seek.due(x, "pour from " + t, x.pour(t, 0, 3 - t, 0, 0), true, 0);
        }
        for (int t : NO_TRAYS) {
            Seek.due(x, "tray " + t, x.tray(t, 0, 1), false, 1);
            Seek.due(x, "write to " + t, x.write(t, 0, 9), false, 1);
            Seek.due(x, "read of " + t, x.read(t, 0), -1, 1);
            Seek.due(x, "pour from " + t, x.pour(t, 0, 0, 0, 1), false, 1);
            Seek.due(x, "pour to " + t, x.pour(0, 0, t, 0, 1), false, 1);
            Seek.due(x, "clock of " + t, x.clock(t, 1, true), -1, 1);
            Seek.due(x, "sight of " + t, x.sight(t), -1, 1);
            Seek.due(x, "judge by " + t, x.judge(0, 0, t), -1, 1);
            Seek.due(x, "value of " + t, x.value(t, 1, 0, 1, 0, 0, 1), false, 1);
            Seek.due(x, "value of others in " + t, x.value(0, 1, t, 1, 0, 0, 1), false, 1);
        }
        for (int t = 0; t <= 3; t++) {
            Seek.due(x, "as it was: " + t, x.read(t, 0), t + 1, 0);
        }
    }

    private static void missingAtFirst() {
        Seek.says("are MISSING at first");
        for (int t = 0; t <= 3; t++) {
            TwoSeek x = Seek.in("place a;");
            int there = (t + 1) % 4;
            x.tray(there, 0, 1);
            Seek.due(x, "way", x.clock(there, 1, true), 0, 0);
            Seek.due(x, "read", x.read(t, 0), -1, 3);
            Seek.due(x, "write", x.write(t, 0, 1), false, 3);
            Seek.due(x, "pour", x.pour(t, 0, there, 0, 0), false, 3);
            Seek.due(x, "pour to it", x.pour(there, 0, t, 0, 0), false, 3);
            Seek.due(x, "clock", x.clock(t, 1, true), -1, 3);
            Seek.due(x, "sight", x.sight(t), -1, 3);
            Seek.due(x, "judge", x.judge(0, 0, t), -1, 3);
            Seek.due(x, "value", x.value(t, 1, there, 1, 0, 0, 1), false, 3);
            Seek.due(x, "value's others", x.value(there, 1, t, 1, 0, 0, 1), false, 3);
            Seek.due(x, "MISSING still", x.read(t, 0), -1, 3);
            x.tray(t, 0, 0);
            Seek.due(x, "empty, not MISSING", x.read(t, 0), -1, 4);
        }
    }

    private static void fourSorts() {
        Seek.says("rows of numbers of 8 bits (sort 0), 16 (1), 32 (2) or 64 (3), with sign");
        TwoSeek x = new TwoSeek();
        for (int sort = 0; sort <= 3; sort++) {
            int bits = 8 << sort;
            long most = Long.MAX_VALUE >> 64 - bits;
            Seek.due(x, "sort " + sort, x.tray(1, sort, 2), true, 0);
            x.write(1, 0, most);
            x.write(1, 1, -most - 1);
            Seek.due(x, "the most of sort " + sort, x.read(1, 0), most, 0);
            Seek.due(x, "the least of sort " + sort, x.read(1, 1), -most - 1, 0);
        }
        for (int sort : new int[] {-1, 4, LEAST, MOST}) {
            Seek.due(x, "sort " + sort, x.tray(1, sort, 2), false, 1);
        }
        Seek.due(x, "as it was", x.read(1, 0), Long.MAX_VALUE, 0);
    }

    private static void cutToTheSort() {
        Seek.says("what is written is cut to these");
        for (int sort = 0; sort <= 2; sort++) {
            int bits = 8 << sort;
            long most = (1L << bits - 1) - 1;
            long[] written = {most + 1, -most - 2, (1L << bits) - 1, 1L << bits, (1L << bits) + 1, -(1L << bits),
                -(1L << bits) - 1, Long.MAX_VALUE, Long.MIN_VALUE, 0x5555555555555555L};
            long[] due = {-most - 1, most, -1, 0, 1, 0, -1, -1, 0, 0x5555555555555555L & most};
            TwoSeek x = with(2, sort, 1);
            for (int k = 0; k < written.length; k++) {
                Seek.due(x, "write", x.write(2, 0, written[k]), true, 0);
                Seek.due(x, written[k] + " in sort " + sort, x.read(2, 0), due[k], 0);
            }
        }
        TwoSeek x = with(2, 3, 1);
        for (long v : new long[] {Long.MAX_VALUE, Long.MIN_VALUE, -1, 1L << 32, -(1L << 31) - 1, 0x5555555555555555L}) {
            x.write(2, 0, v);
            Seek.due(x, v + " whole", x.read(2, 0), v, 0);
        }
    }

    private static void aNewObject() {
        Seek.says("TRAYS are MISSING, no TOWN (no PLACES, LANES), no WAYS, MARKS off, an empty tape;"
                + " STATUS 0, the FRACTION 0 by 1");
        TwoSeek x = new TwoSeek();
        Seek.due("STATUS", x.status(), 0);
        Seek.due("top", x.top(), 0);
        Seek.due("bottom", x.bottom(), 1);
        for (int what = 0; what <= 2; what++) {
            Seek.due(x, "many(" + what + ")", x.many(what), 0, 0);
        }
        for (int t = 0; t <= 3; t++) {
            Seek.due(x, "MISSING", x.read(t, 0), -1, 3);
        }
        Seek.due(x, "no PLACE", x.place(0, 0), -1, 2);
        Seek.due(x, "no PLACE", x.distance(0, 0), -1, 2);
        Seek.due(x, "no LANE", x.shut(0, true), false, 2);
        Seek.due(x, "no WAY", x.mean(0, 0), false, 2);
        Seek.due(x, "an empty tape", x.town(1), -1, 5);
        Seek.due("an empty tape", x.feed(0x706c6163, 0x6520613b, 0x706c6163, 0x6520623b, 0x20202020), 20);
        Seek.due(x, "two PLACES", x.town(20), 2, 0);
    }

    private static void statusOfTheLatest() {
        Seek.says("The STATUS of the latest call that has one.");
        TwoSeek x = new TwoSeek();
        Seek.due(x, "1", x.read(4, 0), -1, 1);
        Seek.due(x, "2", x.same(0, 0), -1, 2);
        Seek.due(x, "3", x.read(0, 0), -1, 3);
        x.tray(0, 0, 1);
        Seek.due(x, "4", x.read(0, 1), -1, 4);
        Seek.due(x, "5", x.many(3), -1, 5);
        Seek.due(x, "6", x.tray(0, 0, -1), false, 6);
        for (int k = 0; k < 12; k++) {
            x.clock(0, 1, false);
        }
        Seek.due(x, "7", x.clock(0, 1, false), -1, 7);
        Seek.due(x, "8", x.alikeStep(0), -1, 8);
        Seek.due(x, "9", x.alike(1), -1, 9);
        x.feed(0, 0, 0, 0, 0);
        Seek.due(x, "10", x.town(1), -1, 10);
        x.tray(1, 1, 1);
        x.pour(0, 0, 1, 0, 1);
        Seek.due("11", x.status(), 11);
        Seek.due("11 again", x.status(), 11);
        x.read(0, 0);
        Seek.due("0", x.status(), 0);
    }

    private static void callsWithoutStatus() {
        Seek.says("status(), fault(), feed(), top(), bottom() have none.");
        TwoSeek x = new TwoSeek();
        x.many(3);
        x.status();
        x.fault(0);
        x.fault(1);
        x.fault(2);
        x.top();
        x.bottom();
        for (int k = 0; k < 26; k++) {
            x.feed(0, 0, 0, 0, 0);
        }
        Seek.due("5 still", x.status(), 5);
        x.many(0);
        x.fault(9);
        Seek.due("a feed over", x.feed(0, 0, 0, 0, 0), -1);
        Seek.due("0 still", x.status(), 0);
    }

    private static void atMost64() {
        Seek.says("A TRAY is a row of so many numbers (at most 64; 5)");
        for (int sort = 0; sort <= 3; sort++) {
            TwoSeek x = with(3, sort, 64);
            Seek.due(x, "the last", x.write(3, 63, 7), true, 0);
            Seek.due(x, "the last", x.read(3, 63), 7, 0);
            Seek.due(x, "behind it", x.write(3, 64, 7), false, 4);
            Seek.due(x, "65", x.tray(3, sort, 65), false, 5);
            Seek.due(x, "the most", x.tray(3, sort, MOST), false, 5);
            Seek.due(x, "as it was", x.read(3, 63), 7, 0);
            Seek.due(x, "1", x.tray(3, sort, 1), true, 0);
            Seek.due(x, "one", x.read(3, 0), 0, 0);
            Seek.due(x, "one alone", x.read(3, 1), -1, 4);
            Seek.due(x, "none", x.tray(3, sort, 0), true, 0);
            Seek.due(x, "none", x.read(3, 0), -1, 4);
            Seek.due(x, "none", x.write(3, 0, 1), false, 4);
        }
    }

    private static void allZero() {
        Seek.says("all 0 (1; 5; 6)");
        TwoSeek x = with(0, 3, 64);
        for (int i = 0; i < 64; i++) {
            x.write(0, i, -1);
        }
        x.tray(0, 3, 2);
        row(x, 0, 0, 0);
        x.tray(0, 0, 64);
        for (int i = 0; i < 64; i++) {
            Seek.due(x, "place " + i, x.read(0, i), 0, 0);
        }
    }

    private static void lengthBelowZero() {
        Seek.says("6 below 0 (a TRAY's length)");
        TwoSeek x = with(1, 2, 1);
        x.write(1, 0, 77);
        Seek.due(x, "-1", x.tray(1, 2, -1), false, 6);
        Seek.due(x, "the least", x.tray(1, 2, LEAST), false, 6);
        Seek.due(x, "as it was", x.read(1, 0), 77, 0);
        Seek.due(x, "of a MISSING one", x.tray(0, 2, -1), false, 6);
        Seek.due(x, "MISSING still", x.read(0, 0), -1, 3);
        Seek.due(x, "pour -1", x.pour(1, 0, 1, 0, -1), false, 6);
        Seek.due(x, "pour the least", x.pour(1, 0, 1, 0, LEAST), false, 6);
    }

    private static void trayRefusals() {
        Seek.says("STATUS of a call is the first of these that holds: 1 no such TRAY (or sort).");
        TwoSeek x = new TwoSeek();
        Seek.due(x, "tray ahead of 65", x.tray(4, 0, 65), false, 1);
        Seek.due(x, "tray ahead of -1", x.tray(-1, 0, -1), false, 1);
        Seek.due(x, "sort ahead of 65", x.tray(0, 4, 65), false, 1);
        Seek.due(x, "sort ahead of -1", x.tray(0, -1, -1), false, 1);
        Seek.due(x, "read: tray ahead of place", x.read(4, -1), -1, 1);
        Seek.due(x, "write: tray ahead of place", x.write(-1, 64, 0), false, 1);
        Seek.due(x, "read: MISSING ahead of place", x.read(0, 64), -1, 3);
        Seek.due(x, "write: MISSING ahead of place", x.write(0, -1, 0), false, 3);
    }

    private static void placesOfATray() {
        Seek.says("A number comes to a place of a TRAY (1; 3; 4).");
        TwoSeek x = with(0, 1, 3);
        for (int i = 0; i < 3; i++) {
            Seek.due(x, "place " + i, x.write(0, i, 10 + i), true, 0);
        }
        for (int i : new int[] {-1, 3, 4, 63, 64, LEAST, MOST}) {
            Seek.due(x, "write to " + i, x.write(0, i, 99), false, 4);
            Seek.due(x, "read of " + i, x.read(0, i), -1, 4);
        }
        row(x, 0, 10, 11, 12);
    }

    private static void noneFromMinusOne() {
        Seek.says("STATUS tells NONE from -1 (1; 3; 4).");
        TwoSeek x = with(0, 0, 1);
        x.write(0, 0, -1);
        Seek.due(x, "-1", x.read(0, 0), -1, 0);
        Seek.due(x, "NONE", x.read(0, 1), -1, 4);
        Seek.due(x, "-1", x.read(0, 0), TwoSeek.NONE, 0);
    }

    private static void pourSoMany() {
        Seek.says("So many numbers from place i on of a TRAY come to place j on of another one, or the same, as they were");
        TwoSeek x = new TwoSeek();
        for (int sort = 0; sort <= 3; sort++) {
            count(x, 0, sort, 64);
            x.tray(1, sort, 64);
            Seek.due(x, "all", x.pour(0, 0, 1, 0, 64), true, 0);
            for (int i = 0; i < 64; i += 9) {
                Seek.due(x, "all", x.read(1, i), i + 1, 0);
            }
            Seek.due(x, "65", x.pour(0, 0, 1, 0, 65), false, 4);
            Seek.due(x, "the last one to the first", x.pour(0, 63, 1, 0, 1), true, 0);
            Seek.due(x, "the first one to the last", x.pour(0, 0, 1, 63, 1), true, 0);
            Seek.due(x, "first", x.read(1, 0), 64, 0);
            Seek.due(x, "second", x.read(1, 1), 2, 0);
            Seek.due(x, "last but one", x.read(1, 62), 63, 0);
            Seek.due(x, "last", x.read(1, 63), 1, 0);
            Seek.due(x, "FIRST's as it was", x.read(0, 63), 64, 0);
        }
    }

    private static void pourNone() {
        Seek.says("So many numbers from place i on");
        TwoSeek x = new TwoSeek();
        count(x, 0, 0, 2);
        count(x, 1, 0, 1);
        Seek.due(x, "none", x.pour(0, 0, 1, 0, 0), true, 0);
        Seek.due(x, "none behind the last", x.pour(0, 2, 1, 1, 0), true, 0);
        Seek.due(x, "none from below 0", x.pour(0, -1, 1, 0, 0), false, 4);
        Seek.due(x, "none to below 0", x.pour(0, 0, 1, -1, 0), false, 4);
        Seek.due(x, "none from far off", x.pour(0, 3, 1, 0, 0), false, 4);
        Seek.due(x, "none to far off", x.pour(0, 0, 1, 2, 0), false, 4);
        row(x, 1, 1);
        x.tray(2, 0, 0);
        Seek.due(x, "from an empty one", x.pour(2, 0, 2, 0, 0), true, 0);
        Seek.due(x, "one from an empty one", x.pour(2, 0, 1, 0, 1), false, 4);
        Seek.due(x, "one to an empty one", x.pour(1, 0, 2, 0, 1), false, 4);
    }

    private static void pourToTheSame() {
        Seek.says("or the same, as they were");
        TwoSeek x = new TwoSeek();
        count(x, 0, 0, 5);
        x.pour(0, 0, 0, 1, 4);
        row(x, 0, 1, 1, 2, 3, 4);
        count(x, 0, 0, 5);
        x.pour(0, 1, 0, 0, 4);
        row(x, 0, 2, 3, 4, 5, 5);
        count(x, 0, 0, 5);
        x.pour(0, 0, 0, 0, 5);
        row(x, 0, 1, 2, 3, 4, 5);
        x.pour(0, 0, 0, 3, 2);
        row(x, 0, 1, 2, 3, 1, 2);
    }

    private static void pourUnlikeSorts() {
        Seek.says("11 TRAYS of unlike sorts");
        TwoSeek x = new TwoSeek();
        for (int sort = 0; sort <= 3; sort++) {
            for (int other = 0; other <= 3; other++) {
                x.tray(0, sort, 1);
                x.tray(1, other, 1);
                x.write(0, 0, 5);
                Seek.due(x, sort + " and " + other, x.pour(0, 0, 1, 0, 1), sort == other, sort == other ? 0 : 11);
                Seek.due(x, "what came", x.read(1, 0), sort == other ? 5 : 0, 0);
            }
        }
    }

    private static void pourOrder() {
        Seek.says("1, 3 (either), 11, 6, 4, asked in this order");
        TwoSeek x = new TwoSeek();
        x.tray(0, 0, 2);
        x.tray(1, 1, 2);
        x.tray(2, 0, 2);
        Seek.due(x, "1 ahead of 3", x.pour(3, 9, 4, 9, -1), false, 1);
        Seek.due(x, "1 ahead of 3", x.pour(4, 9, 3, 9, -1), false, 1);
        Seek.due(x, "3 of the one, ahead of all else", x.pour(3, 9, 0, 9, -1), false, 3);
        Seek.due(x, "3 of the other, ahead of all else", x.pour(1, 9, 3, 9, -1), false, 3);
        Seek.due(x, "11 ahead of 6", x.pour(0, 0, 1, 0, -1), false, 11);
        Seek.due(x, "11 ahead of 4", x.pour(0, 9, 1, 9, 9), false, 11);
        Seek.due(x, "6 ahead of 4", x.pour(0, 9, 2, -9, -1), false, 6);
        Seek.due(x, "4", x.pour(0, 9, 2, 0, 1), false, 4);
    }

    private static void pourTooFew() {
        Seek.says("4 a place that the TRAY has not, or too few numbers");
        TwoSeek x = new TwoSeek();
        count(x, 0, 2, 4);
        x.tray(1, 2, 3);
        int[][] fine = {{0, 0, 3}, {1, 0, 3}, {3, 2, 1}, {3, 0, 1}, {2, 1, 2}};
        for (int[] f : fine) {
            Seek.due(x, "from " + f[0] + " to " + f[1] + ", " + f[2], x.pour(0, f[0], 1, f[1], f[2]), true, 0);
        }
        x.tray(1, 2, 3);
        int[][] few = {{0, 0, 4}, {2, 0, 3}, {4, 0, 1}, {0, 1, 3}, {0, 3, 1}, {-1, 0, 1}, {0, -1, 1}, {-1, 0, 3},
            {LEAST, 0, 1}, {0, LEAST, 1}, {MOST, 0, 1}, {0, MOST, 1}, {1, 0, MOST}, {0, 1, MOST}, {MOST, MOST, MOST}};
        for (int[] f : few) {
            Seek.due(x, "from " + f[0] + " to " + f[1] + ", " + f[2], x.pour(0, f[0], 1, f[1], f[2]), false, 4);
        }
        row(x, 1, 0, 0, 0);
        row(x, 0, 1, 2, 3, 4);
    }

    private static void the512thCall() {
        Seek.says("An object is used for at most 512 calls after it has been made");
        TwoSeek x = new TwoSeek();
        x.tray(0, 3, 64);
        for (int call = 2; call <= 510; call += 2) {
            x.write(0, call % 64, call);
            if (x.read(0, call % 64) != call) {
                Seek.due("call " + call, 0, call);
            }
        }
        Seek.due("call 512", x.read(0, 510 % 64), 510);
    }
}
