/** For each promise what is due by hand: ordinary calls, the edges that are named, wrong ones. */
public final class PromiseTest {
    private static final String TWO = "place a;place b;lane a to b;";
    private static final String PATH = "place a;place b;place c;lane a to b;lane b to c;";
    private static final String LONG = "place a;place b;place c;place d;lane a to b;lane b to c;lane c to d;";
    private static final String EIGHT = "place a;place b;place c;place d;place e;place f;place g;place h;";
    private static final String RING = EIGHT + "lane a to b;lane b to c;lane c to d;lane d to e;lane e to f;"
            + "lane f to g;lane g to h;lane h to a;";
    private static final String TWELVE = RING + "lane a to e;lane b to f;lane c to g;lane d to h;";
    private static final String UNLIKELY = "place a first 0;place b first 0;lane a to b;";

    public static void main(String[] args) {
        aNewObject();
        status();
        topAndBottom();
        tray();
        writeAndRead();
        cut();
        pour();
        feed();
        town();
        fault();
        many();
        place();
        shut();
        marks();
        distance();
        clock();
        sight();
        when();
        whenWithRules();
        judge();
        mean();
        worst();
        same();
        agreed();
        step();
        alike();
        parted();
        turned();
        drawn();
        bestDrawn();
        three();
        value();
        valueRefuses();
        chance();
        door();
        wander();
        Seek.end();
    }

    /** An object in a town with three WAYS: 0 waits, 1 always goes by LANE 0, 2 always by LANE 1. */
    private static TwoSeek walkers(String text) {
        TwoSeek x = Seek.in(text);
        Seek.due("way", Seek.clock(x, false, 0), 0);
        Seek.due("way", Seek.clock(x, true, 1), 1);
        Seek.due("way", Seek.clock(x, true, 2), 2);
        return x;
    }

    // Promise 1
    private static void aNewObject() {
        TwoSeek x = new TwoSeek();
        Seek.due(x, "new", 0, 0, 0);
        Seek.dueFraction(x, "new", 0, 1);
        Seek.due("NONE", TwoSeek.NONE, -1);
        for (int t = 0; t < 4; t++) {
            Seek.due(x, "read of MISSING", x.read(t, 0), -1, 3);
        }
        for (int what = 0; what < 3; what++) {
            Seek.due(x, "many", x.many(what), 0, 0);
        }
        Seek.due("fault", x.fault(0), -1);
        Seek.due("fault", x.fault(1), -1);
        Seek.due("feed", x.feed(0, 0, 0, 0, 0), 20);
        Seek.due(x, "same", x.same(0, 0), -1, 2);
        Seek.due(x, "agreed", x.agreed(1), -1, 9);
        Seek.due(x, "step", x.step(0, 0), -1, 8);
        Seek.due(x, "alikeStep", x.alikeStep(0), -1, 8);
        Seek.due(x, "chance", x.chance(0), false, 8);
    }

    // Promise 2
    private static void status() {
        TwoSeek x = new TwoSeek();
        x.many(9);
        Seek.due("status of a refused call", x.status(), 5);
        x.status();
        x.top();
        x.bottom();
        x.fault(0);
        x.feed(0, 0, 0, 0, 0);
        Seek.due("status() and their like have none", x.status(), 5);
        x.many(0);
        Seek.due("status of one that is done", x.status(), 0);
    }

    // Promises 3 and 4
    private static void topAndBottom() {
        TwoSeek x = walkers("place a;place b first 9;lane a to b;");
        Seek.due(x, "mean", x.mean(0, 1), true, 0);
        Seek.dueFraction(x, "mean without a common divisor", 1, 2);
        Seek.due(x, "no mean", x.mean(0, 0), false, 9);
        Seek.due(x, "no way", x.mean(0, 7), false, 2);
        Seek.dueFraction(x, "a refused call tells none", 1, 2);
        x.worst(0, 1);
        x.distance(0, 1);
        Seek.dueFraction(x, "worst tells none", 1, 2);
        Seek.town(x, "place a;");
        Seek.due(x, "mean", x.mean(0, 0), true, 0);
        Seek.dueFraction(x, "0", 0, 1);
    }

    // Promise 5
    private static void tray() {
        TwoSeek x = new TwoSeek();
        for (int t = 0; t < 4; t++) {
            for (int sort = 0; sort < 4; sort++) {
                Seek.due(x, "tray", x.tray(t, sort, 64), true, 0);
                Seek.due(x, "read", x.read(t, 63), 0, 0);
            }
        }
        Seek.due(x, "write", x.write(1, 2, 5), true, 0);
        Seek.due(x, "tray 4", x.tray(4, 0, 1), false, 1);
        Seek.due(x, "tray -1", x.tray(-1, 0, 1), false, 1);
        Seek.due(x, "sort 4", x.tray(1, 4, 1), false, 1);
        Seek.due(x, "sort -1", x.tray(1, -1, 1), false, 1);
        Seek.due(x, "tray 4 of 65", x.tray(4, 0, 65), false, 1);
        Seek.due(x, "sort 4 of -1", x.tray(1, 4, -1), false, 1);
        Seek.due(x, "65", x.tray(1, 3, 65), false, 5);
        Seek.due(x, "most", x.tray(1, 3, Integer.MAX_VALUE), false, 5);
        Seek.due(x, "-1", x.tray(1, 3, -1), false, 6);
        Seek.due(x, "least", x.tray(1, 3, Integer.MIN_VALUE), false, 6);
        Seek.due(x, "as it was", x.read(1, 2), 5, 0);
        Seek.due(x, "anew", x.tray(1, 3, 3), true, 0);
        Seek.due(x, "all 0", x.read(1, 2), 0, 0);
        Seek.due(x, "shorter", x.read(1, 3), -1, 4);
        Seek.due(x, "none", x.tray(1, 3, 0), true, 0);
        Seek.due(x, "of length 0", x.read(1, 0), -1, 4);
    }

    // Promises 6 and 7
    private static void writeAndRead() {
        TwoSeek x = new TwoSeek();
        Seek.due(x, "write 4", x.write(4, 0, 1), false, 1);
        Seek.due(x, "write -1", x.write(-1, -1, 1), false, 1);
        Seek.due(x, "write to MISSING", x.write(0, -1, 1), false, 3);
        Seek.due(x, "read 4", x.read(4, 0), -1, 1);
        Seek.due(x, "read of MISSING", x.read(0, 99), -1, 3);
        x.tray(0, 2, 2);
        Seek.due(x, "write", x.write(0, 1, -1), true, 0);
        Seek.due(x, "read -1", x.read(0, 1), -1, 0);
        Seek.due(x, "read 0", x.read(0, 0), 0, 0);
        Seek.due(x, "write 2", x.write(0, 2, 1), false, 4);
        Seek.due(x, "write -1", x.write(0, -1, 1), false, 4);
        Seek.due(x, "read 2", x.read(0, 2), -1, 4);
        Seek.due(x, "read -1", x.read(0, -1), -1, 4);
        Seek.due(x, "read least", x.read(0, Integer.MIN_VALUE), -1, 4);
    }

    private static void cut() {
        TwoSeek x = new TwoSeek();
        long v = 0x123456789abcdef0L;
        long[] cut = {(byte) 0xf0, (short) 0xdef0, 0x9abcdef0, v};
        long[] edge = {-128, -32768, Integer.MIN_VALUE, Long.MIN_VALUE};
        for (int sort = 0; sort < 4; sort++) {
            Seek.fill(x, sort, sort, v, 1L << (7 + 8 * ((1 << sort) - 1)), (1L << (7 + 8 * ((1 << sort) - 1))) - 1);
            Seek.due("cut", x.read(sort, 0), cut[sort]);
            Seek.due("cut to the least", x.read(sort, 1), edge[sort]);
            Seek.due("cut to the most", x.read(sort, 2), -(edge[sort] + 1));
        }
    }

    // Promise 8
    private static void pour() {
        TwoSeek x = new TwoSeek();
        Seek.due(x, "tray 4", x.pour(4, 0, 0, 0, 1), false, 1);
        Seek.due(x, "to 4", x.pour(0, 0, 4, 0, 1), false, 1);
        Seek.due(x, "MISSING", x.pour(0, 0, 1, 0, 1), false, 3);
        Seek.fill(x, 0, 1, 1, 2, 3, 4, 5);
        Seek.due(x, "to MISSING", x.pour(0, 0, 1, 0, 1), false, 3);
        Seek.due(x, "from MISSING", x.pour(1, 0, 0, 0, 1), false, 3);
        x.tray(1, 2, 5);
        Seek.due(x, "unlike sorts", x.pour(0, 9, 1, 9, -1), false, 11);
        Seek.fill(x, 1, 1, 9, 8, 7);
        Seek.due(x, "-1", x.pour(0, 9, 1, 9, -1), false, 6);
        Seek.due(x, "too many of FIRST", x.pour(0, 4, 1, 0, 2), false, 4);
        Seek.due(x, "too many of the other", x.pour(0, 0, 1, 2, 2), false, 4);
        Seek.due(x, "i below 0", x.pour(0, -1, 1, 0, 1), false, 4);
        Seek.due(x, "j below 0", x.pour(0, 0, 1, -1, 1), false, 4);
        Seek.due(x, "far too many", x.pour(0, 1, 1, 1, Integer.MAX_VALUE), false, 4);
        Seek.due(x, "far off", x.pour(0, Integer.MAX_VALUE, 1, 0, 1), false, 4);
        Seek.due(x, "none of them", x.pour(0, 5, 1, 3, 0), true, 0);
        Seek.due(x, "pour", x.pour(0, 3, 1, 1, 2), true, 0);
        row(x, 1, 9, 4, 5);
        row(x, 0, 1, 2, 3, 4, 5);
        Seek.due(x, "up", x.pour(0, 0, 0, 1, 4), true, 0);
        row(x, 0, 1, 1, 2, 3, 4);
        Seek.due(x, "down", x.pour(0, 2, 0, 0, 3), true, 0);
        row(x, 0, 2, 3, 4, 3, 4);
    }

    private static void row(TwoSeek x, int tray, long... due) {
        for (int i = 0; i < due.length; i++) {
            Seek.due("place " + i + " of tray " + tray, x.read(tray, i), due[i]);
        }
    }

    // Promise 9
    private static void feed() {
        TwoSeek x = new TwoSeek();
        for (int k = 1; k <= 25; k++) {
            Seek.due("feed", x.feed(0x20202020, 0x20202020, 0x20202020, 0x20202020, 0x2020200a), 20 * k);
        }
        Seek.due("feed over", x.feed(0, 0, 0, 0, 0), -1);
        Seek.due("feed over again", x.feed(0, 0, 0, 0, 0), -1);
        Seek.due(x, "500 blanks", x.town(500), 0, 0);
        Seek.due("feed", x.feed(0x706c6163, 0x65206120, 0x73656573, 0x20353b20, 0x80ffffff), 20);
        Seek.due(x, "the highest first", x.town(16), 1, 0);
        Seek.due("sees", x.place(0, 0), 5);
        x.feed(0x63726f73, 0x733b2020, 0x20202020, 0x20202020, 0x202020ff);
        Seek.due(x, "a byte above 127", x.town(20), -1, 10);
        Seek.due("its fault", x.fault(0), 1);
        Seek.due("its place", x.fault(1), 19);
    }

    // Promise 10
    private static void town() {
        TwoSeek x = new TwoSeek();
        Seek.due(x, "an empty one", x.town(0), 0, 0);
        Seek.due(x, "-1", x.town(-1), -1, 5);
        Seek.due(x, "more than there is", x.town(1), -1, 5);
        Seek.feed(x, TWO);
        Seek.due(x, "more than there is", x.town(41), -1, 5);
        Seek.due("the tape stays with 5", x.feed(0, 0, 0, 0, 0), 60);
        Seek.due(x, "the first bytes", x.town(28), 2, 0);
        Seek.due("the tape is empty then", x.feed(0, 0, 0, 0, 0), 20);
        x.shut(0, true);
        x.marks(true);
        Seek.due(x, "with a fault", x.town(20), -1, 10);
        Seek.due("the tape is empty with 10", x.feed(0, 0, 0, 0, 0), 20);
        Seek.due("the old one stays", x.many(0), 2);
        Seek.due(x, "and is SHUT", x.distance(0, 1), -1, 8);
        Seek.due("ways", Seek.clock(x, true, 1), 0);
        x.town(0);
        Seek.town(x, TWELVE);
        Seek.due("places", x.many(0), 8);
        Seek.due("lanes", x.many(1), 12);
        Seek.due("ways stay", x.many(2), 1);
        Seek.due("no lane is SHUT", x.distance(0, 1), 1);
        Seek.due(x, "a small one", Seek.town(x, TWO), 2, 0);
        Seek.due(x, "its lanes are those told", x.place(0, 3), -1, 8);
        Seek.due(x, "nothing of the old one", x.place(2, 0), -1, 2);
    }

    // Promise 11
    private static void fault() {
        TwoSeek x = new TwoSeek();
        Seek.due("fault(0) ahead", x.fault(0), -1);
        Seek.due("fault(1) ahead", x.fault(1), -1);
        x.town(7);
        Seek.due("fault(0) with 5", x.fault(0), -1);
        told(TWO, 0, -1);
        told("", 0, -1);
        tokens();
        rules();
        places();
        lanes();
        Seek.town(x, "cross;cross;");
        Seek.due("fault(0)", x.fault(0), 5);
        Seek.due("fault(1)", x.fault(1), 6);
        x.town(99);
        Seek.due("fault(0) after 5", x.fault(0), 5);
        Seek.due("fault(1) after 5", x.fault(1), 6);
        Seek.due("fault(2)", x.fault(2), -1);
        Seek.due("fault(-1)", x.fault(-1), -1);
        Seek.town(x, "cross;");
        Seek.due("fault(0)", x.fault(0), 0);
        Seek.due("fault(1)", x.fault(1), -1);
    }

    private static void told(String text, int kind, int at) {
        TwoSeek x = new TwoSeek();
        int places = Seek.town(x, text);
        Seek.due("places of '" + text + "'", places == -1, kind != 0);
        Seek.due("status of '" + text + "'", x.status(), kind == 0 ? 0 : 10);
        Seek.due("fault of '" + text + "'", x.fault(0), kind);
        Seek.due("fault's place of '" + text + "'", x.fault(1), at);
    }

    private static void tokens() {
        told(" \n  \n", 0, -1);
        told("\ncross\n;\n", 0, -1);
        told("cross;slow 2;hears 1;", 0, -1);
        told("place a sees5first9second0;lane", 2, 31);
        told("A", 1, 0);
        told(" \t", 1, 1);
        told("cross;\r", 1, 6);
        told("cross:", 1, 5);
        told("cross{", 1, 5);
        told("cross`", 1, 5);
        told("cross/", 1, 5);
        told("cross\u00e9", 1, 5);
        told("cross\u0000", 1, 5);
        told("123", 1, 0);
        told("12", 2, 0);
        told(";", 2, 0);
        told("slow 123;", 1, 5);
        told("slow 0000004;", 1, 5);
        told("slow 12345678901234567890;", 1, 5);
        told("place A;B", 1, 6);
        told("goo ?", 2, 0);
        told("crossx;", 2, 0);
        told("Cross;", 1, 0);
        told("cross;;", 2, 6);
        told("to;", 2, 0);
        told("sees 1;", 2, 0);
    }

    private static void rules() {
        told("slow 1;", 0, -1);
        told("slow 4;", 0, -1);
        told("slow 04;", 0, -1);
        told("slow4;", 0, -1);
        told("slow 0;", 4, 5);
        told("slow 5;", 4, 5);
        told("slow 00;", 4, 5);
        told("slow 12;", 4, 5);
        told("slow 1", 2, 6);
        told("slow 1 ", 2, 7);
        told("slow;", 2, 4);
        told("slow a;", 2, 5);
        told("slow 1 2;", 2, 7);
        told("slow 2;slow 3;", 5, 7);
        told("slow 1;slow 1;", 5, 7);
        told("hears 0;", 0, -1);
        told("hears 3;", 0, -1);
        told("hears 4;", 4, 6);
        told("hears 0;hears 0;", 5, 8);
        told("hears;", 2, 5);
        told("cross;cross;", 5, 6);
        told("cross;cross", 5, 6);
        told("cross 1;", 2, 6);
        told("cross", 2, 5);
    }

    private static void places() {
        told("place", 2, 5);
        told("place;", 2, 5);
        told("place 1;", 2, 6);
        for (String word : new String[] {"place", "lane", "to", "cross", "slow", "hears", "sees", "first", "second"}) {
            told("place " + word + ";", 2, 6);
            told("place a;lane " + word + " to a;", 2, 13);
            told("place " + word + "s;", 0, -1);
        }
        told("place abcdefgh;", 0, -1);
        told("place abcdefghi;", 2, 6);
        told("place placeplaceplaceplaceplaceplace;", 2, 6);
        told("place zzzzzzzz;place zzzzzzzy;place zzzzzzz;place z;", 0, -1);
        told("place a", 2, 7);
        told("place a b;", 2, 8);
        told("place a 1;", 2, 8);
        told("place a to b;", 2, 8);
        told("place a;place a;", 3, 14);
        told("place abcdefgh;place abcdefgh;", 3, 21);
        told(EIGHT, 0, -1);
        told(EIGHT + "place i;", 6, 70);
        told(EIGHT + "place h;", 3, 70);
        told(EIGHT + "place ;", 2, 70);
        told("place a sees 0;place b sees 5 first 0 second 0;place c second 9 first 9;", 0, -1);
        told("place a sees 6;", 4, 13);
        told("place a first 10;", 4, 14);
        told("place a second 10;", 4, 15);
        told("place a sees;", 2, 12);
        told("place a sees b;", 2, 13);
        told("place a first;", 2, 13);
        told("place a sees 1 sees 1;", 5, 15);
        told("place a first 1 sees 1 first;", 5, 23);
        told("place a second 1 second 99;", 5, 17);
        told("place a sees 1 first 2 second 3 sees 4;", 5, 32);
        told("place a sees 1 first 2 second 3 b;", 2, 32);
        told("place asees 3;", 2, 12);
    }

    private static void lanes() {
        told("lane", 2, 4);
        told("lane a to b;", 3, 5);
        told("lane to a to b;", 2, 5);
        told("place a;lane a to b;", 3, 18);
        told("place a;lane a b;", 2, 15);
        told("place a;lane a;", 2, 14);
        told("place a;lane a to;", 2, 17);
        told("place a;lane a to 1;", 2, 18);
        told("place a;lane a to abcdefghi;", 2, 18);
        told("place a;lane a to a;", 5, 18);
        told("place a;lane a to place;", 2, 18);
        told(TWO + "lane a to b;", 6, 38);
        told(TWO + "lane b to a;", 6, 38);
        told("place a;place b;lane a to b place", 2, 28);
        told("lane a to b;place a;place b;", 3, 5);
        String star = EIGHT + "lane a to b;lane c to a;lane a to d;lane e to a;";
        told(star, 0, -1);
        told(star + "lane a to f;", 6, 117);
        told(star + "lane f to a;", 6, 122);
        told(star + "lane a to a;", 6, 117);
        told(star + "lane b to c;", 0, -1);
        told(TWELVE, 0, -1);
        told(TWELVE + "lane", 6, TWELVE.length());
        told(TWELVE + "lane zzz to 999", 6, TWELVE.length());
        told(TWELVE + "cross;", 0, -1);
        told("place a;place b;place c;lane c to a;lane b to c;lane a to b;lane c to b;", 6, 70);
    }

    // Promise 12
    private static void many() {
        TwoSeek x = walkers(PATH);
        Seek.due(x, "places", x.many(0), 3, 0);
        Seek.due(x, "lanes", x.many(1), 2, 0);
        Seek.due(x, "ways", x.many(2), 3, 0);
        Seek.due(x, "what 3", x.many(3), -1, 5);
        Seek.due(x, "what -1", x.many(-1), -1, 5);
    }

    // Promise 13
    private static void place() {
        TwoSeek x = Seek.in("place a sees 4;place b;place c;lane c to a;lane a to b;lane b to c;");
        int[][] due = {{4, 2, 2, 1}, {0, 2, 0, 2}, {0, 2, 0, 1}};
        x.shut(0, true);
        for (int p = 0; p < 3; p++) {
            for (int what = 0; what < 4; what++) {
                Seek.due(x, "place " + p + " " + what, x.place(p, what), due[p][what], 0);
            }
            Seek.due(x, "no lane 2", x.place(p, 4), -1, 8);
            Seek.due(x, "no lane 3", x.place(p, 5), -1, 8);
            Seek.due(x, "what 6", x.place(p, 6), -1, 5);
            Seek.due(x, "what -1", x.place(p, -1), -1, 5);
        }
        Seek.due(x, "place 3", x.place(3, 6), -1, 2);
        Seek.due(x, "place -1", x.place(-1, 0), -1, 2);
    }

    // Promise 14
    private static void shut() {
        TwoSeek x = walkers(PATH);
        Seek.due("open", x.distance(0, 2), 2);
        Seek.due(x, "shut", x.shut(1, true), true, 0);
        Seek.due(x, "shut again", x.shut(1, true), true, 0);
        Seek.due(x, "is SHUT", x.distance(0, 2), -1, 8);
        Seek.due(x, "who has a SHUT one waits", x.when(0, 2, 2, 1), -1, 8);
        Seek.due(x, "the other is not", x.when(0, 1, 0, 1), 1, 0);
        Seek.due(x, "no more", x.shut(1, false), true, 0);
        Seek.due("open", x.when(0, 2, 2, 1), 1);
        Seek.due(x, "lane 2", x.shut(2, true), false, 2);
        Seek.due(x, "lane -1", x.shut(-1, true), false, 2);
        Seek.due(x, "lane 2", x.shut(2, false), false, 2);
    }

    // Promise 15
    private static void marks() {
        TwoSeek x = walkers(LONG);
        Seek.due("way", Seek.clock(x, false, 2, 2), 3);
        Seek.due(x, "off", x.when(3, 1, 1, 0), -1, 8);
        Seek.due(x, "marks", x.marks(true), true, 0);
        Seek.due(x, "on", x.when(3, 1, 1, 0), 3, 0);
        Seek.due(x, "marks", x.marks(false), true, 0);
        Seek.due(x, "off", x.when(3, 1, 1, 0), -1, 8);
        x.marks(true);
        x.town(0);
        Seek.town(x, LONG);
        Seek.due(x, "off in a new town", x.when(3, 1, 1, 0), -1, 8);
        // FIRST leaves b by LANE 0, comes back, leaves it by LANE 1: that one is followed when
        // SECOND comes there, not the first
        Seek.town(x, "place a;place b;place c;place d;lane b to a;lane b to c;lane b to d;");
        Seek.due("way", Seek.clock(x, false, 1, 1, 2), 4);
        Seek.due("way", Seek.clock(x, false, 0, 0, 0, 1, 1), 5);
        Seek.due(x, "off", x.when(4, 5, 1, 3), -1, 8);
        x.marks(true);
        Seek.due(x, "latest", x.when(4, 5, 1, 3), 5, 0);
        Seek.due(x, "FIRST does not follow", x.when(5, 4, 3, 1), -1, 8);
    }

    // Promise 16
    private static void distance() {
        TwoSeek x = Seek.in(RING + "lane a to e;");
        int[] due = {0, 1, 2, 2, 1, 2, 2, 1};
        for (int b = 0; b < 8; b++) {
            Seek.due(x, "distance to " + b, x.distance(0, b), due[b], 0);
            Seek.due(x, "distance from " + b, x.distance(b, 0), due[b], 0);
        }
        x.shut(8, true);
        Seek.due(x, "all around", x.distance(0, 4), 4, 0);
        x.shut(0, true);
        x.shut(7, true);
        Seek.due(x, "no lanes", x.distance(0, 4), -1, 8);
        Seek.due(x, "to itself", x.distance(0, 0), 0, 0);
        Seek.due(x, "place 8", x.distance(0, 8), -1, 2);
        Seek.due(x, "place -1", x.distance(-1, 0), -1, 2);
    }

    // Promise 17
    private static void clock() {
        TwoSeek x = new TwoSeek();
        Seek.due(x, "tray 4", x.clock(4, 0, true), -1, 1);
        Seek.due(x, "tray -1", x.clock(-1, 0, true), -1, 1);
        Seek.due(x, "MISSING", x.clock(0, 0, true), -1, 3);
        Seek.fill(x, 0, 3, 0, 4, 5, 1L << 32);
        Seek.due(x, "0", x.clock(0, 0, true), -1, 5);
        Seek.due(x, "-1", x.clock(0, -1, true), -1, 5);
        Seek.due(x, "25", x.clock(0, 25, true), -1, 5);
        Seek.due(x, "too few", x.clock(0, 5, true), -1, 4);
        Seek.due(x, "5", x.clock(0, 3, true), -1, 5);
        Seek.due(x, "fine", x.clock(0, 2, true), 0, 0);
        x.write(0, 2, 1);
        Seek.due(x, "2 to the 32nd", x.clock(0, 4, true), -1, 5);
        x.write(0, 3, -1);
        Seek.due(x, "-1", x.clock(0, 4, true), -1, 5);
        x.tray(1, 0, 64);
        Seek.due(x, "24", x.clock(1, 24, false), 1, 0);
        for (int k = 2; k < 12; k++) {
            Seek.due(x, "way", x.clock(1, 1, false), k, 0);
        }
        Seek.due(x, "a 13th", x.clock(1, 1, false), -1, 7);
        Seek.due(x, "a 13th that can't be", x.clock(0, 4, false), -1, 5);
        Seek.due("ways", x.many(2), 12);
        TwoSeek y = walkers(LONG);
        // the row is the WAY's own
        y.write(3, 0, 1);
        Seek.due("way", Seek.clock(y, false, 1, 1, 0), 3);
        Seek.due("way", Seek.clock(y, true, 1, 1, 0), 4);
        Seek.due(y, "waits there for ever", y.when(0, 3, 0, 3), -1, 8);
        Seek.due(y, "begins again", y.when(0, 4, 0, 3), 4, 0);
    }

    // Promise 18
    private static void sight() {
        TwoSeek x = Seek.in("place a sees 0;place b sees 5;place c sees 5;lane a to b;lane b to c;");
        Seek.due(x, "tray 4", x.sight(4), -1, 1);
        Seek.due(x, "MISSING", x.sight(0), -1, 3);
        x.tray(0, 0, 17);
        Seek.due(x, "too few", x.sight(0), -1, 4);
        x.tray(0, 0, 64);
        x.write(0, 18, 99);
        x.write(0, 17, 15);
        Seek.due(x, "15", x.sight(0), -1, 5);
        x.write(0, 17, -1);
        Seek.due(x, "-1", x.sight(0), -1, 5);
        x.write(0, 17, 14);
        Seek.due(x, "14, and 18 of more", x.sight(0), 0, 0);
        Seek.due("waits", Seek.clock(x, true, 0), 1);
        // in c: waits, MOOD 1; there: goes by LANE 0 to b, MOOD 2; there: goes by LANE 0, MOOD 0
        long[] all = new long[18];
        all[5] = 5;
        all[11] = 11;
        all[17] = 1;
        Seek.due("way", Seek.sight(x, all), 2);
        Seek.due(x, "by moods", x.when(1, 2, 0, 2), 3, 0);
        // both wait, then go on, FIRST behind SECOND, which stays in a: each has a MOOD of its own
        Seek.due(x, "behind one another", x.when(2, 2, 2, 1), 3, 0);
        for (int k = 3; k < 12; k++) {
            Seek.due(x, "way", x.sight(0), k, 0);
        }
        Seek.due(x, "a 13th", x.sight(0), -1, 7);
        x.write(0, 0, 15);
        Seek.due(x, "a 13th that can't be", x.sight(0), -1, 5);
    }

    // Promise 19
    private static void when() {
        TwoSeek x = walkers(PATH);
        Seek.due(x, "at first", x.when(0, 0, 1, 1), 0, 0);
        Seek.due(x, "both", x.when(1, 1, 0, 2), 1, 0);
        Seek.due(x, "one", x.when(0, 1, 0, 2), 2, 0);
        Seek.due(x, "the other", x.when(1, 0, 2, 0), 2, 0);
        Seek.due(x, "never", x.when(1, 1, 0, 1), -1, 8);
        Seek.due(x, "no such lane", x.when(2, 0, 0, 1), -1, 8);
        Seek.due(x, "way 3", x.when(3, 0, 0, 0), -1, 2);
        Seek.due(x, "way -1", x.when(0, -1, 0, 0), -1, 2);
        Seek.due(x, "place 3", x.when(0, 0, 3, 0), -1, 2);
        Seek.due(x, "place -1", x.when(0, 0, 0, -1), -1, 2);
        x = walkers(PATH);
        long[] row = new long[24];
        long[] other = new long[24];
        row[7] = 1;
        other[8] = 1;
        Seek.due("way", Seek.clock(x, true, row), 3);
        Seek.due("way", Seek.clock(x, true, other), 4);
        Seek.due("way", Seek.clock(x, true, 0, 0, 0, 0, 0, 0, 0, 1), 5);
        // it goes in TICKS 7, 31, .. alone
        Seek.due(x, "8", x.when(0, 3, 1, 2), 8, 0);
        Seek.due(x, "9", x.when(0, 4, 1, 2), 9, 0);
        Seek.due(x, "to a", x.when(0, 3, 0, 2), 32, 0);
        Seek.due(x, "to a", x.when(0, 5, 0, 2), 16, 0);
    }

    private static void whenWithRules() {
        // slow: SECOND steps in TICKS 0, 2, 4; 0, 3; 0, 4
        for (int slow = 1; slow <= 4; slow++) {
            TwoSeek x = walkers(PATH + "slow " + slow + ";");
            Seek.due(x, "slow " + slow, x.when(0, 1, 0, 2), slow + 1, 0);
            Seek.due(x, "FIRST is not slow", x.when(1, 0, 2, 0), 2, 0);
            // SECOND's WAY stands with it: its third STEP is that of its third TICK
            Seek.due("way", Seek.clock(x, true, 0, 0, 1), 3);
            Seek.due(x, "slow way", x.when(0, 3, 0, 1), 2 * slow + 1, 0);
        }
        TwoSeek y = walkers("place a;place b;lane a to b;slow 4;");
        long[] late = new long[24];
        late[1] = 1;
        Seek.due("way", Seek.clock(y, true, late), 3);
        Seek.due(y, "5", y.when(0, 3, 0, 1), 5, 0);
        TwoSeek x = walkers(TWO + "cross;");
        Seek.due(x, "cross", x.when(1, 1, 0, 1), 1, 0);
        x = walkers(TWO);
        Seek.due(x, "no cross", x.when(1, 1, 0, 1), -1, 8);
        for (int hears = 0; hears <= 3; hears++) {
            x = walkers(LONG + "hears " + hears + ";");
            for (int b = 1; b < 4; b++) {
                boolean is = b <= hears;
                Seek.due(x, "hears " + hears + " at " + b, x.when(0, 0, 0, b), is ? b : -1, is ? 0 : 8);
            }
        }
        // FIRST waits when it hears: else it would go on round
        x = walkers("place a;place b;place c;lane a to b;lane b to c;lane c to a;hears 1;");
        Seek.due(x, "round", x.when(1, 0, 0, 1), 1, 0);
        x = walkers(LONG + "hears 1;slow 2;");
        // c hears b: at TICK 0 SECOND comes; in a: TICK 0 by its WAY to b, TICK 1 stands, TICK 2 comes
        Seek.due(x, "heard", x.when(0, 1, 1, 2), 1, 0);
        Seek.due(x, "slow to come", x.when(0, 1, 2, 0), 3, 0);
        x = walkers("place a;place b;place c;place d;lane a to b;lane a to c;lane d to c;lane d to b;hears 2;");
        x.shut(0, true);
        Seek.due(x, "by lanes that are not SHUT", x.when(0, 0, 1, 0), -1, 8);
        Seek.due(x, "hears round", x.when(0, 0, 1, 2), 2, 0);
        lastTick();
    }

    /** The edge of 200 TICKS, for two and for three, and for one who steps in every fourth alone. */
    private static void lastTick() {
        TwoSeek x = Seek.in(LONG);
        Seek.due("way", Seek.clock(x, true, 0, 0, 0, 0, 0, 0, 0, 0, 0, 0, 0, 0, 0, 2, 0, 0, 1, 0, 0, 0, 0, 0, 0), 0);
        Seek.due("way", Seek.clock(x, true, 0, 1, 0, 0, 0, 0, 0, 0, 0, 0, 0, 0, 0, 0, 2, 0, 0, 0, 0, 0, 0, 0), 1);
        Seek.due(x, "200", x.when(0, 1, 0, 3), 200, 0);
        Seek.due(x, "three in 200", x.three(0, 1, 0, 33), 200, 0);
        Seek.due("way", Seek.clock(x, true, 0, 0, 0, 0, 0, 0, 0, 0, 0, 0, 0, 2, 1, 0, 0, 0, 0, 0, 0, 0, 0), 2);
        Seek.due("way", Seek.clock(x, true, 0, 0, 0, 0, 0, 0, 0, 0, 0, 0, 0, 0, 0, 0, 0, 0, 1, 0, 2, 0, 0, 0, 0), 3);
        Seek.due(x, "201", x.when(2, 3, 0, 3), -1, 8);
        Seek.due(x, "three in 201", x.three(2, 3, 0, 33), -1, 8);
        // SECOND's STEPS 1, 25, 49 come in TICKS 4, 100, 196; its STEPS 2, 26, 50 in 8, 104, 200
        x = walkers(LONG + "slow 4;");
        long[] row = new long[24];
        row[1] = 1;
        Seek.due("way", Seek.clock(x, true, row), 3);
        Seek.due(x, "197", x.when(0, 3, 0, 3), 197, 0);
        row = new long[24];
        row[2] = 1;
        Seek.due("way", Seek.clock(x, true, row), 4);
        Seek.due(x, "201", x.when(0, 4, 0, 3), -1, 8);
    }

    // Promise 20
    private static void judge() {
        TwoSeek x = walkers(PATH);
        Seek.due(x, "tray 4", x.judge(9, 0, 4), -1, 1);
        Seek.due(x, "way 9", x.judge(9, 0, 0), -1, 2);
        Seek.due(x, "way -1", x.judge(0, -1, 0), -1, 2);
        Seek.due(x, "MISSING", x.judge(0, 1, 0), -1, 3);
        x.tray(0, 0, 8);
        Seek.due(x, "too few", x.judge(0, 1, 0), -1, 4);
        Seek.fill(x, 0, 0, 0, 1, 2, 1, 0, 1, -1, -1, 0, 77);
        Seek.due(x, "all are right", x.judge(0, 1, 0), -1, 0);
        x.write(0, 7, 3);
        Seek.due(x, "c and b", x.judge(0, 1, 0), 17, 0);
        x.write(0, 2, 3);
        Seek.due(x, "a and c", x.judge(0, 1, 0), 2, 0);
        x.write(0, 0, 1);
        Seek.due(x, "a and a", x.judge(0, 1, 0), 0, 0);
        x.town(0);
        Seek.due(x, "no places", x.judge(0, 1, 0), -1, 0);
        x = walkers("place a first 0 second 0;place b;");
        Seek.fill(x, 0, 3, 1L << 32, -1, -1, 0);
        Seek.due(x, "unlikely ones, too, and all 64 bits", x.judge(0, 0, 0), 0, 0);
        x.write(0, 0, 0);
        Seek.due(x, "all are right", x.judge(0, 0, 0), -1, 0);
    }

    // Promise 21
    private static void mean() {
        TwoSeek x = walkers("place a second 3;place b first 2;place c first 0;lane a to b;lane b to c;");
        Seek.due(x, "mean", x.mean(0, 1), true, 0);
        Seek.dueFraction(x, "mean", 11, 15);
        Seek.due(x, "never", x.mean(0, 2), false, 9);
        Seek.due(x, "way 3", x.mean(3, 0), false, 2);
        Seek.due(x, "way -1", x.mean(0, -1), false, 2);
        Seek.town(x, UNLIKELY);
        Seek.due(x, "none is likely", x.mean(0, 1), false, 9);
        Seek.town(x, "place a second 0;place b second 0;lane a to b;");
        Seek.due(x, "none is likely", x.mean(0, 1), false, 9);
        x.town(0);
        Seek.due(x, "no places", x.mean(0, 1), false, 9);
        Seek.dueFraction(x, "as it was", 11, 15);
    }

    // Promise 22
    private static void worst() {
        TwoSeek x = walkers("place a second 3;place b first 2;place c first 0;lane a to b;lane b to c;");
        Seek.due(x, "worst", x.worst(0, 1), 2, 0);
        Seek.due(x, "never", x.worst(0, 2), -1, 9);
        Seek.due(x, "way 3", x.worst(3, 0), -1, 2);
        Seek.due(x, "way -1", x.worst(0, -1), -1, 2);
        Seek.town(x, "place a second 3;place b first 2;place c first 0 second 0;lane a to b;lane b to c;");
        Seek.due(x, "of likely ones alone", x.worst(0, 1), 1, 0);
        Seek.town(x, UNLIKELY);
        Seek.due(x, "none is likely", x.worst(0, 1), -1, 9);
        Seek.town(x, "place a;");
        Seek.due(x, "together", x.worst(0, 1), 0, 0);
    }

    // Promise 23
    private static void same() {
        TwoSeek x = Seek.in(PATH);
        Seek.due(x, "ends", x.same(0, 2), 1, 0);
        Seek.due(x, "end and middle", x.same(0, 1), 0, 0);
        Seek.due(x, "itself", x.same(1, 1), 1, 0);
        x.shut(1, true);
        Seek.due(x, "SHUT or not", x.same(0, 2), 1, 0);
        Seek.due(x, "place 3", x.same(0, 3), -1, 2);
        Seek.due(x, "place -1", x.same(-1, 0), -1, 2);
        Seek.town(x, "place a;place b;place c sees 1;lane a to b;lane b to c;");
        Seek.due(x, "sights", x.same(0, 2), 0, 0);
        // a long path: its ends are told apart by what stands in the middle alone
        Seek.town(x, LONG);
        Seek.due(x, "ends of four", x.same(0, 3), 0, 0);
        Seek.due(x, "middles of four", x.same(1, 2), 0, 0);
        Seek.town(x, "place a;place b;place c;place d;lane a to b;lane d to c;lane b to c;");
        Seek.due(x, "ends of four", x.same(0, 3), 1, 0);
        Seek.due(x, "middles of four", x.same(1, 2), 1, 0);
        Seek.town(x, EIGHT.replace("h;", "h sees 1;") + "lane a to b;lane c to d;lane e to f;lane g to h;lane b to c;"
                + "lane d to e;lane f to g;");
        Seek.due(x, "told apart far off", x.same(0, 2), 0, 0);
        Seek.due(x, "told apart far off", x.same(1, 3), 0, 0);
        Seek.due(x, "of no lanes", Seek.town(x, "place a;place b;place c sees 2;"), 3, 0);
        Seek.due(x, "of no lanes", x.same(0, 1), 1, 0);
        Seek.due(x, "of no lanes", x.same(0, 2), 0, 0);
    }

    // Promise 24
    private static void agreed() {
        TwoSeek x = Seek.in(PATH);
        Seek.due(x, "agreed(1)", x.agreed(1), 3, 0);
        Seek.dueFraction(x, "late", 1, 1);
        rows(x, new int[] {0}, new int[] {1});
        Seek.due(x, "0", x.agreed(0), -1, 5);
        Seek.due(x, "4", x.agreed(4), -1, 5);
        Seek.due(x, "-1", x.agreed(-1), -1, 5);
        Seek.dueFraction(x, "as it was", 1, 1);
        // FIRST can stay away from none: LANE 1 twice brings all to c, SECOND's LANE 0 and LANE 1
        Seek.town(x, UNLIKELY);
        Seek.due(x, "none is likely", x.agreed(2), -1, 9);
        Seek.due(x, "5 ahead of 9", x.agreed(4), -1, 5);
        rows(x, new int[] {0}, new int[] {1});
        Seek.town(x, TWO + "slow 3;");
        // behind TICK 0 SECOND stands, so its STEPS there are the least
        Seek.due(x, "slow", x.agreed(3), 0, 0);
        Seek.dueFraction(x, "late", 1, 2);
        rows(x, new int[] {0, 0, 0}, new int[] {1, 0, 0});
        Seek.town(x, TWO + "cross;hears 3;");
        Seek.due(x, "cross; no hearing", x.agreed(1), 0, 0);
        rows(x, new int[] {0}, new int[] {1});
        Seek.town(x, "place a first 9 second 0;place b second 0;place c second 5;lane a to b;lane b to c;");
        // from a (9), b (1), c (1) to c: FIRST by LANE 0, SECOND by LANE 0: 45 meet, b crosses
        Seek.due(x, "weights", x.agreed(1), 5, 0);
        Seek.dueFraction(x, "late", 1, 1);
        rows(x, new int[] {1}, new int[] {1});
        Seek.town(x, LONG);
        Seek.due(x, "agreed(3)", x.agreed(3), 0, 0);
    }

    private static void rows(TwoSeek x, int[] first, int[] second) {
        for (int k = 0; k < first.length; k++) {
            Seek.due(x, "step(0, " + k + ")", x.step(0, k), first[k], 0);
            Seek.due(x, "step(1, " + k + ")", x.step(1, k), second[k], 0);
        }
        Seek.due(x, "step(0, many)", x.step(0, first.length), -1, 8);
        Seek.due(x, "step(1, many)", x.step(1, first.length), -1, 8);
    }

    // Promise 25
    private static void step() {
        TwoSeek x = Seek.in(PATH);
        Seek.due(x, "none yet", x.step(1, 0), -1, 8);
        Seek.due(x, "who ahead of none yet", x.step(2, 0), -1, 5);
        x.agreed(2);
        Seek.due(x, "who 2", x.step(2, 9), -1, 5);
        Seek.due(x, "who -1", x.step(-1, 0), -1, 5);
        Seek.due(x, "k -1", x.step(0, -1), -1, 8);
        Seek.due(x, "k 2", x.step(0, 2), -1, 8);
        x.alike(5);
        Seek.due(x, "not alike's", x.step(0, 2), -1, 8);
        x.agreed(1);
        Seek.due(x, "of the latest", x.step(0, 1), -1, 8);
        x.town(0);
        rows(x, new int[] {0}, new int[] {1});
    }

    // Promises 26 and 27
    private static void alike() {
        TwoSeek x = Seek.in(PATH);
        Seek.due(x, "none yet", x.alikeStep(0), -1, 8);
        Seek.due(x, "alike(1)", x.alike(1), 4, 0);
        Seek.dueFraction(x, "late", 10, 9);
        Seek.due(x, "alikeStep", x.alikeStep(0), 1, 0);
        Seek.due(x, "alike(2)", x.alike(2), 0, 0);
        Seek.dueFraction(x, "late", 10, 9);
        Seek.due(x, "alikeStep", x.alikeStep(0), 2, 0);
        Seek.due(x, "alikeStep", x.alikeStep(1), 1, 0);
        Seek.due(x, "alikeStep", x.alikeStep(2), -1, 8);
        Seek.due(x, "alikeStep", x.alikeStep(-1), -1, 8);
        // longer rows end as that one, with nothing to do: the least STEPS
        Seek.due(x, "alike(5)", x.alike(5), 0, 0);
        Seek.dueFraction(x, "late", 10, 9);
        int[] row = {2, 1, 0, 0, 0};
        for (int k = 0; k < 5; k++) {
            Seek.due(x, "alikeStep", x.alikeStep(k), row[k], 0);
        }
        Seek.due(x, "0", x.alike(0), -1, 5);
        Seek.due(x, "6", x.alike(6), -1, 5);
        Seek.town(x, UNLIKELY);
        Seek.due(x, "none is likely", x.alike(1), -1, 9);
        Seek.due(x, "5 ahead of 9", x.alike(6), -1, 5);
        Seek.due(x, "as it was", x.alikeStep(4), 0, 0);
        x.agreed(1);
        Seek.due(x, "not agreed's", x.alikeStep(4), 0, 0);
        Seek.town(x, TWO + "slow 2;hears 3;");
        // TICK 0 would have both go past one another; in TICK 1 SECOND stands and FIRST goes
        Seek.due(x, "slow", x.alike(2), 0, 0);
        Seek.dueFraction(x, "late", 1, 1);
        Seek.due(x, "alikeStep", x.alikeStep(0), 0, 0);
        Seek.due(x, "alikeStep", x.alikeStep(1), 1, 0);
        Seek.town(x, TWO + "cross;");
        Seek.due(x, "cross", x.alike(1), 0, 0);
        Seek.due(x, "alikeStep", x.alikeStep(0), 1, 0);
    }

    // Promise 28
    private static void parted() {
        TwoSeek x = Seek.in(TWO);
        Seek.due(x, "two", x.parted(0, 1, 0), 1, 0);
        Seek.due(x, "like ones", x.parted(1, 1, 0), -1, 2);
        Seek.due(x, "like ones ahead of what", x.parted(1, 1, 7), -1, 2);
        Seek.due(x, "place 2", x.parted(0, 2, 0), -1, 2);
        Seek.due(x, "place -1", x.parted(-1, 0, 0), -1, 2);
        Seek.due(x, "what 2", x.parted(0, 1, 2), -1, 5);
        Seek.due(x, "what -1", x.parted(0, 1, -1), -1, 5);
        Seek.town(x, TWO + "cross;slow 4;");
        Seek.due(x, "cross", x.parted(0, 1, 0), 0, 0);
        Seek.town(x, TWO + "hears 3;slow 2;");
        x.marks(true);
        Seek.due(x, "no hearing, slow 1, no marks", x.parted(0, 1, 0), 1, 0);
        Seek.town(x, PATH);
        Seek.due(x, "path", x.parted(0, 2, 0), 0, 0);
        Seek.due(x, "path by two steps", x.parted(0, 1, 0), 0, 0);
        x.shut(1, true);
        Seek.due(x, "SHUT", x.parted(0, 2, 0), 1, 0);
        // the ring whose LANES lead alike all round: no row brings together
        Seek.town(x, "place a;place b;place c;place d;lane a to b;lane c to d;lane b to c;lane d to a;");
        Seek.due(x, "ring", x.parted(0, 2, 0), 1, 0);
        Seek.due(x, "ring", x.parted(0, 1, 0), 1, 0);
    }

    private static void turned() {
        TwoSeek x = Seek.in(TWO);
        Seek.due(x, "two", x.parted(0, 1, 1), 1, 0);
        Seek.town(x, "place a;place b sees 1;lane a to b;");
        Seek.due(x, "unlike sights", x.parted(0, 1, 1), 0, 0);
        Seek.town(x, PATH);
        Seek.due(x, "path", x.parted(0, 2, 1), 0, 0);
        x.shut(1, true);
        Seek.due(x, "SHUT ones are none", x.parted(0, 1, 1), 1, 0);
        Seek.due(x, "SHUT ones are none", x.parted(0, 2, 1), 0, 0);
        x.shut(0, true);
        Seek.due(x, "all are SHUT", x.parted(0, 2, 1), 1, 0);
        Seek.town(x, PATH);
        x.shut(0, true);
        // b keeps LANE 1, c has LANE 0: numbers are kept
        Seek.due(x, "SHUT ones keep their number", x.parted(1, 2, 1), 0, 0);
        Seek.town(x, "place a;place b;place c;place d;lane a to b;lane c to d;lane b to c;lane d to a;");
        Seek.due(x, "ring half round", x.parted(0, 2, 1), 1, 0);
        Seek.due(x, "ring turned over", x.parted(0, 1, 1), 1, 0);
        // three round by 0: what puts a on b puts b on c, not on a
        Seek.town(x, "place a;place b;place c;place d sees 1;lane a to b;lane b to c;lane c to a;");
        Seek.due(x, "three round", x.parted(0, 1, 1), 0, 0);
        // apart from one another: a's path on b's path, and d stays
        Seek.town(x, "place a;place b;place d sees 1;place e;place f;lane a to e;lane b to f;");
        Seek.due(x, "two paths", x.parted(0, 1, 1), 1, 0);
        Seek.due(x, "two paths", x.parted(0, 3, 1), 1, 0);
        Seek.due(x, "a path and a place", x.parted(0, 2, 1), 0, 0);
        Seek.town(x, "place a;place b;place e;place f sees 1;lane a to e;lane b to f;");
        Seek.due(x, "unlike sights further on", x.parted(0, 1, 1), 0, 0);
    }

    // Promise 29
    private static void drawn() {
        TwoSeek x = walkers(TWO);
        Seek.due(x, "4 of 16", x.drawn(0, 1, 4, 1, 1), true, 0);
        Seek.dueFraction(x, "4 of 16", 11, 16);
        Seek.due(x, "0 of 16", x.drawn(0, 1, 0, 24, 5), true, 0);
        Seek.dueFraction(x, "0 of 16", 1, 2);
        // half of them meet in each draw: all but 1 of 32 of a half
        Seek.due(x, "five times", x.drawn(0, 1, 8, 1, 5), true, 0);
        Seek.dueFraction(x, "five times", 63, 64);
        // 1 of 16, five times: 1 - (1 - 30/256)^5, of a half
        x.drawn(0, 1, 1, 1, 5);
        Seek.dueFraction(x, "1 of 16", (1L << 40) + (1L << 40) - power(226, 5) >> 5, 1L << 36);
        Seek.due(x, "way 3", x.drawn(3, 0, 99, 1, 1), false, 2);
        Seek.due(x, "way -1", x.drawn(0, -1, 99, 1, 1), false, 2);
        Seek.due(x, "17", x.drawn(0, 1, 17, 1, 1), false, 5);
        Seek.due(x, "-1", x.drawn(0, 1, -1, 1, 1), false, 5);
        Seek.due(x, "ticks 0", x.drawn(0, 1, 1, 0, 1), false, 5);
        Seek.due(x, "ticks 25", x.drawn(0, 1, 1, 25, 1), false, 5);
        Seek.due(x, "times 0", x.drawn(0, 1, 1, 1, 0), false, 5);
        Seek.due(x, "times 6", x.drawn(0, 1, 1, 1, 6), false, 5);
        Seek.town(x, UNLIKELY);
        Seek.due(x, "none is likely", x.drawn(0, 1, 1, 1, 1), false, 9);
        Seek.due(x, "5 ahead of 9", x.drawn(0, 1, 17, 1, 1), false, 5);
        drawnAnew();
    }

    private static long power(long v, int times) {
        return times == 0 ? 1 : v * power(v, times - 1);
    }

    private static void drawnAnew() {
        // each draw begins the WAY again: a STEP on, none behind it; three draws bring FIRST from a
        // to d, where SECOND waits
        TwoSeek x = walkers("place a second 0;place b first 0 second 0;place c first 0 second 0;place d first 0;"
                + "lane d to c;lane c to b;lane b to a;slow 4;hears 3;");
        Seek.due("way", Seek.clock(x, false, 0, 1), 3);
        x.marks(true);
        x.drawn(3, 3, 16, 2, 1);
        Seek.dueFraction(x, "towards a", 0, 1);
        Seek.due("way", Seek.clock(x, false, 1), 4);
        // one draws to wait (8 of 16) or to go by LANE 0; FIRST comes from a to b, SECOND from d to c
        // with the first draw; both there with 1 of 4; b goes to c by 0
        x.drawn(0, 4, 8, 1, 1);
        Seek.dueFraction(x, "a and d are far", 0, 1);
        Seek.town(x, TWO + "cross;slow 3;");
        x.drawn(1, 1, 16, 1, 1);
        Seek.dueFraction(x, "cross, slow 1", 1, 1);
        // the CHANCE by weights: (a, b) 3, (b, a) 0
        Seek.town(x, "place a first 3;place b first 0;lane a to b;hears 2;");
        x.drawn(0, 1, 8, 1, 1);
        Seek.dueFraction(x, "weights", 3, 4);
    }

    // Promise 30
    private static void bestDrawn() {
        TwoSeek x = walkers(TWO);
        Seek.due(x, "best", x.bestDrawn(0, 1, 1, 1), 8, 0);
        Seek.dueFraction(x, "best", 3, 4);
        Seek.due(x, "the least of several", x.bestDrawn(0, 0, 1, 1), 0, 0);
        Seek.dueFraction(x, "the least of several", 1, 2);
        Seek.due(x, "way 3", x.bestDrawn(3, 0, 0, 1), -1, 2);
        Seek.due(x, "ticks 0", x.bestDrawn(0, 1, 0, 1), -1, 5);
        Seek.due(x, "ticks 25", x.bestDrawn(0, 1, 25, 1), -1, 5);
        Seek.due(x, "times 0", x.bestDrawn(0, 1, 1, 0), -1, 5);
        Seek.due(x, "times 6", x.bestDrawn(0, 1, 1, 6), -1, 5);
        Seek.town(x, UNLIKELY);
        Seek.due(x, "none is likely", x.bestDrawn(0, 1, 1, 1), -1, 9);
        Seek.town(x, TWO + "cross;");
        // who go both meet, too; who wait both do not: the more go, the better
        Seek.due(x, "all go", x.bestDrawn(1, 0, 1, 1), 16, 0);
        Seek.dueFraction(x, "all go", 1, 1);
        Seek.due(x, "all go", x.bestDrawn(0, 1, 1, 1), 0, 0);
    }

    // Promise 31
    private static void three() {
        TwoSeek x = walkers(LONG);
        Seek.due(x, "at first", x.three(0, 1, 2, 333), 0, 0);
        Seek.due(x, "a wait", x.three(0, 1, 1, 13), 3, 0);
        // SECOND leads the third by the rest of its own WAY, b to a with its third STEP
        Seek.due("way", Seek.clock(x, false, 0, 0, 1), 3);
        Seek.due("way", Seek.clock(x, false, 1), 4);
        Seek.due(x, "holds on", x.three(0, 3, 4, 12), 3, 0);
        Seek.due(x, "led by FIRST", x.three(3, 4, 0, 120), 3, 0);
        Seek.due(x, "never", x.three(0, 4, 0, 210), -1, 8);
        Seek.due(x, "place 4", x.three(0, 0, 0, 4), -1, 2);
        Seek.due(x, "place 4", x.three(0, 0, 0, 40), -1, 2);
        Seek.due(x, "place 4", x.three(0, 0, 0, 400), -1, 2);
        Seek.due(x, "1000", x.three(0, 0, 0, 1000), -1, 2);
        Seek.due(x, "-1", x.three(0, 0, 0, -1), -1, 2);
        Seek.due(x, "-100", x.three(0, 0, 0, -100), -1, 2);
        Seek.due(x, "least", x.three(0, 0, 0, Integer.MIN_VALUE), -1, 2);
        Seek.due(x, "way 5", x.three(5, 0, 0, 0), -1, 2);
        Seek.due(x, "way 5", x.three(0, 5, 0, 0), -1, 2);
        Seek.due(x, "way -1", x.three(0, 0, -1, 0), -1, 2);
        // no crossing, hearing, MARKS, and SECOND is not slow
        Seek.town(x, TWO + "cross;hears 3;slow 4;");
        x.marks(true);
        Seek.due(x, "crossing", x.three(1, 1, 1, 11), -1, 8);
        Seek.due(x, "not slow", x.three(0, 1, 1, 11), 1, 0);
    }

    // Promise 32
    private static void value() {
        TwoSeek x = walkers(TWO);
        Seek.fill(x, 0, 2, 0, 1, 0);
        Seek.fill(x, 1, 2, 0, 1);
        Seek.due(x, "wait or go", x.value(0, 2, 1, 2, 0, 1, 10), true, 0);
        Seek.dueFraction(x, "wait or go", 11, 2);
        Seek.due(x, "a CAP of 1", x.value(0, 2, 1, 2, 0, 1, 1), true, 0);
        Seek.dueFraction(x, "a CAP of 1", 1, 1);
        Seek.due(x, "chance", x.chance(0), true, 0);
        Seek.dueFraction(x, "all alike: the first", 1, 1);
        Seek.due(x, "together", x.value(0, 2, 1, 2, 1, 1, 100), true, 0);
        Seek.dueFraction(x, "together", 0, 1);
        Seek.due(x, "the same way twice", x.value(0, 3, 1, 2, 0, 1, 100), true, 0);
        Seek.dueFraction(x, "the same way twice", 101, 2);
        x.chance(0);
        Seek.dueFraction(x, "the first as likely as can be", 1, 2);
        x.chance(1);
        Seek.dueFraction(x, "then the second", 1, 2);
        x.chance(2);
        Seek.dueFraction(x, "the third", 0, 1);
        // FIRST waits or goes, SECOND waits: WHEN in a slow town with hearing
        x = walkers(LONG + "slow 2;hears 1;");
        Seek.fill(x, 0, 0, 0);
        Seek.fill(x, 1, 0, 1);
        Seek.due(x, "slow and hearing count", x.value(0, 1, 1, 1, 2, 0, 100), true, 0);
        Seek.dueFraction(x, "slow and hearing count", 3, 1);
        Seek.due(x, "a CAP", x.value(0, 1, 1, 1, 2, 0, 2), true, 0);
        Seek.dueFraction(x, "a CAP", 2, 1);
        unevenValue();
    }

    /** FIRST in b of a path waits, or goes by LANE 0 or 1; SECOND in c likewise, and far off. */
    private static void unevenValue() {
        TwoSeek x = walkers(LONG);
        Seek.fill(x, 0, 0, 0, 2);
        Seek.fill(x, 1, 0, 0, 1);
        // WAITS, goes to c; SECOND waits in c or goes to b: WHEN NEVER, 1; 1, NEVER (then c to d)
        x.value(0, 2, 1, 2, 1, 2, 3);
        Seek.dueFraction(x, "even", 2, 1);
        // 3 by 2: one WAY more that waits twice and goes: worth 3 against each
        Seek.due("way", Seek.clock(x, false, 0, 2), 3);
        Seek.fill(x, 0, 0, 3, 0, 2);
        x.value(0, 3, 1, 2, 1, 2, 5);
        // rows: (2, 1) (5, 1) (1, 5): the first and the third mix: 2p + q = p + 5q, p = 4q
        Seek.dueFraction(x, "uneven", 9, 5);
        x.chance(0);
        Seek.dueFraction(x, "uneven", 4, 5);
        x.chance(1);
        Seek.dueFraction(x, "uneven", 0, 1);
        x.chance(2);
        Seek.dueFraction(x, "uneven", 1, 5);
    }

    private static void valueRefuses() {
        TwoSeek x = walkers(TWO);
        Seek.due(x, "tray 4", x.value(4, 9, 0, 9, 9, 9, 0), false, 1);
        Seek.due(x, "tray -1", x.value(0, 9, -1, 9, 9, 9, 0), false, 1);
        Seek.due(x, "place 2", x.value(0, 9, 1, 9, 2, 0, 0), false, 2);
        Seek.due(x, "place -1", x.value(0, 9, 1, 9, 0, -1, 0), false, 2);
        Seek.due(x, "MISSING", x.value(0, 9, 1, 9, 0, 0, 0), false, 3);
        Seek.fill(x, 0, 0, 0, 7);
        Seek.due(x, "MISSING", x.value(0, 9, 1, 9, 0, 0, 0), false, 3);
        Seek.due(x, "MISSING", x.value(1, 9, 0, 9, 0, 0, 0), false, 3);
        Seek.fill(x, 1, 3, 0, 1L << 32);
        Seek.due(x, "0", x.value(0, 0, 1, 1, 0, 0, 1), false, 5);
        Seek.due(x, "4", x.value(0, 4, 1, 1, 0, 0, 1), false, 5);
        Seek.due(x, "0", x.value(0, 1, 1, 0, 0, 0, 1), false, 5);
        Seek.due(x, "4", x.value(0, 1, 1, 4, 0, 0, 1), false, 5);
        Seek.due(x, "CAP 0", x.value(0, 3, 1, 1, 0, 0, 0), false, 5);
        Seek.due(x, "CAP 101", x.value(0, 3, 1, 1, 0, 0, 101), false, 5);
        Seek.due(x, "too few", x.value(0, 3, 1, 2, 0, 0, 1), false, 4);
        Seek.due(x, "too few of the other", x.value(0, 2, 1, 3, 0, 0, 1), false, 4);
        Seek.due(x, "way 7", x.value(0, 2, 1, 1, 0, 0, 1), false, 2);
        Seek.due(x, "way 2 to the 32nd", x.value(0, 1, 1, 2, 0, 0, 1), false, 2);
        Seek.due(x, "those alone that are picked", x.value(0, 1, 1, 1, 0, 0, 100), true, 0);
        x.write(0, 0, -1);
        Seek.due(x, "way -1", x.value(0, 1, 1, 1, 0, 0, 1), false, 2);
        Seek.due(x, "as it was", x.chance(0), true, 0);
    }

    // Promise 33
    private static void chance() {
        TwoSeek x = walkers(TWO);
        Seek.due(x, "none yet", x.chance(0), false, 8);
        Seek.fill(x, 0, 2, 0, 1);
        x.value(0, 2, 0, 2, 0, 1, 10);
        x.mean(0, 1);
        Seek.due(x, "chance", x.chance(1), true, 0);
        Seek.dueFraction(x, "chance", 1, 2);
        Seek.due(x, "-1", x.chance(-1), false, 8);
        Seek.due(x, "2", x.chance(2), false, 8);
        x.value(0, 1, 0, 2, 0, 1, 10);
        Seek.due(x, "of the latest", x.chance(1), false, 8);
        Seek.due(x, "of the latest", x.chance(0), true, 0);
        Seek.dueFraction(x, "of the latest", 1, 1);
        x.value(0, 9, 0, 2, 0, 1, 10);
        Seek.due(x, "refused ones do not count", x.chance(0), true, 0);
    }

    // Promise 34
    private static void door() {
        String fork = "place a second 0;place b first 0;place c first 0 second 0;lane b to c;lane b to a;";
        TwoSeek x = walkers(fork);
        Seek.due("way", Seek.clock(x, true, 1, 2), 3);
        Seek.due(x, "open", x.when(0, 3, 0, 1), 4, 0);
        Seek.due(x, "door", x.door(0, 3), 0, 0);
        Seek.dueFraction(x, "door", 2, 1);
        Seek.due(x, "open again", x.when(0, 3, 0, 1), 4, 0);
        Seek.due(x, "none is better", x.door(0, 2), -1, 0);
        Seek.dueFraction(x, "none is better", 1, 1);
        Seek.due(x, "none with any", x.door(0, 0), -1, 9);
        Seek.due("way", Seek.clock(x, false, 1, 2), 4);
        Seek.due(x, "never but with it", x.mean(0, 4), false, 9);
        Seek.due(x, "door", x.door(0, 4), 0, 0);
        Seek.dueFraction(x, "door", 2, 1);
        x.shut(0, true);
        Seek.due(x, "SHUT already", x.door(0, 3), -1, 0);
        Seek.dueFraction(x, "SHUT already", 2, 1);
        Seek.due(x, "it stays SHUT", x.distance(1, 2), -1, 8);
        Seek.due(x, "way 5", x.door(5, 0), -1, 2);
        Seek.due(x, "way -1", x.door(0, -1), -1, 2);
        Seek.town(x, UNLIKELY);
        Seek.due(x, "none is likely", x.door(0, 1), -1, 9);
        x.town(0);
        Seek.due(x, "no places", x.door(0, 1), -1, 9);
        // two LANES that are as good: the least; b leads to c by 0, c to b: either one SHUT has
        // SECOND wait in b for LANE 1, or come no further than b
        Seek.town(x, "place a second 0;place b first 0;place c first 0 second 0;place d first 0 second 0;"
                + "lane d to c;lane b to c;lane b to a;");
        Seek.due(x, "the lane at b", x.door(0, 3), 1, 0);
        Seek.dueFraction(x, "the lane at b", 2, 1);
        likeDoors();
    }

    /** From each of two places one LANE is as bad: with either SHUT the MEAN is the same. */
    private static void likeDoors() {
        TwoSeek x = walkers("place a second 0;place b first 0;place c first 0 second 0;place d first 0 second 0;"
                + "lane b to c;lane c to d;lane b to a;");
        // 1: b to c; 2: c to d; 1: d to c; 1: c to b; 2: b to a. With c to d SHUT: 1, wait, 1, wait, 2
        Seek.due("way", Seek.clock(x, true, 1, 2, 1, 1, 2, 0, 0), 3);
        Seek.due(x, "open", x.when(0, 3, 0, 1), 5, 0);
        Seek.due(x, "door", x.door(0, 3), 0, 0);
        Seek.dueFraction(x, "door", 2, 1);
        Seek.town(x, "place a second 0;place b first 0;place c first 0 second 0;place d first 0;"
                + "place e first 0 second 0;lane b to c;lane d to e;lane b to a;lane d to a;");
        // b and d are like: each of their first LANES, SHUT, helps the one alone
        Seek.due("way", Seek.clock(x, true, 1, 2), 4);
        Seek.due(x, "from b", x.when(0, 4, 0, 1), 4, 0);
        Seek.due(x, "from d", x.when(0, 4, 0, 3), 4, 0);
        x.shut(1, true);
        Seek.due(x, "from b", x.when(0, 4, 0, 1), 4, 0);
        Seek.due(x, "from d", x.when(0, 4, 0, 3), 2, 0);
        x.shut(1, false);
        Seek.due(x, "the least of both", x.door(0, 4), 0, 0);
        Seek.dueFraction(x, "the least of both", 3, 1);
    }

    // Promise 35: the well-known row 16838, 5758, 10113, 17515, 31051, 5627, .. of the seed 1
    private static void wander() {
        TwoSeek x = Seek.in(TWO + "hears 3;slow 4;");
        x.marks(true);
        Seek.due(x, "seed 1", x.wander(1, 0, 1), 3, 0);
        Seek.due(x, "seed 1", x.wander(1, 1, 0), 3, 0);
        Seek.due(x, "at first", x.wander(1, 1, 1), 0, 0);
        Seek.due(x, "seed -1", x.wander(-1, 0, 1), -1, 5);
        Seek.due(x, "place ahead of seed", x.wander(-1, 0, 2), -1, 2);
        Seek.due(x, "place -1", x.wander(0, -1, 0), -1, 2);
        long s = Integer.MAX_VALUE;
        int ticks = 0;
        boolean met = false;
        while (!met) {
            ticks++;
            s = (s * 1103515245L + 12345) % (1L << 31);
            boolean first = s / 65536 % 5 == 1;
            s = (s * 1103515245L + 12345) % (1L << 31);
            boolean second = s / 65536 % 5 == 1;
            met = first != second;
        }
        Seek.due(x, "the greatest seed", x.wander(Integer.MAX_VALUE, 0, 1), ticks, 0);
        x.shut(0, true);
        Seek.due(x, "not met", x.wander(1, 0, 1), -1, 8);
        // both cross in TICK 3 when FIRST draws 1 and SECOND 2 by LANES that lead together
        Seek.town(x, "place z;place a;place b;lane b to z;lane a to b;cross;");
        Seek.due(x, "cross", x.wander(1, 1, 2), 3, 0);
        edgeOfWandering();
    }

    /** In a long path some seeds need about 1,000 TICKS: none meets behind that. */
    private static void edgeOfWandering() {
        TwoSeek x = Seek.in(EIGHT + "lane a to b;lane b to c;lane c to d;lane d to e;lane e to f;lane f to g;lane g to h;");
        for (int seed = 0; seed < 150; seed++) {
            Naive n = new Naive();
            Place.path(n, 8);
            Seek.due("wander " + seed, x.wander(seed, 0, 7), n.wander(seed, 0, 7));
            Seek.due("its status", x.status(), n.status());
        }
    }

    /** A path for Naive. */
    private static final class Place {
        static void path(Naive n, int many) {
            for (int i = 0; i < many; i++) {
                n.town.places.add(new Naive.Place());
                if (i > 0) {
                    n.town.lanes.add(new Naive.Lane(i - 1, i));
                    n.town.places.get(i - 1).lanes.add(i - 1);
                    n.town.places.get(i).lanes.add(i - 1);
                }
            }
        }
    }
}
