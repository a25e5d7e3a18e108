import java.util.Arrays;
import java.util.List;

/**
 * The document once more from its first line: what the edge tests, which quote the sentences that name a
 * boundary case, left unquoted. That neither's WAY goes on while they hear, or SECOND's on the trail, can't
 * be told by any call: who hears, or is on the trail, stays so till they MEET.
 */
public final class ThroughTest {
    private static final String TWO = "place a;place b;lane a to b;";
    private static final String LEAD = "place a;place b;";
    // of each PLACE LANE 0 leads to one neighbour, and LANE 0 of that one back; LANE 1 likewise to the other one
    private static final String RING = "place a;place b;place c;place d;"
            + "lane a to b;lane c to d;lane b to c;lane d to a;";
    private static final String[] TOKENS = {"place", "lane", "to", "cross", "slow", "hears", "sees", "first", "second",
        "a", "b", "z", "abcdefghi", "0", "1", "12", ";"};

    public static void main(String[] args) {
        grammar();
        cross();
        ticks();
        mean();
        parted();
        drawn();
        wander();
        three();
        shy();
        numbers();
        statuses();
        Seek.end();
    }

    // ---- term 1

    private static void grammar() {
        Seek.says("TOWN: {PART}. PART: place NAME {FEATURE} ; or lane NAME to NAME ; or cross ; or slow NUMBER ;"
                + " or hears NUMBER ; FEATURE: sees NUMBER, or first NUMBER, or second NUMBER.");
        stands("", true, "place", "lane", "cross", "slow", "hears");
        stands("place", false, "a", "b", "z");
        stands("place c", false, "sees", "first", "second", ";");
        stands("place c sees", false, "0", "1", "12");
        stands("place c first", false, "0", "1", "12");
        stands("place c second", false, "0", "1", "12");
        stands("place c sees 5", false, "sees", "first", "second", ";");
        stands("place c first 9 sees 5", false, "sees", "first", "second", ";");
        stands("place c second 9 sees 5 first 0", false, "sees", "first", "second", ";");
        stands("lane", false, "a", "b", "z");
        stands("lane a", false, "to");
        stands("lane a to", false, "a", "b", "z");
        stands("lane a to b", false, ";");
        stands("cross", false, ";");
        stands("slow", false, "0", "1", "12");
        stands("slow 4", false, ";");
        stands("hears", false, "0", "1", "12");
        stands("hears 3", false, ";");
        stands("cross ;", true, "place", "lane", "cross", "slow", "hears");
        stands("place c ;", true, "place", "lane", "cross", "slow", "hears");
        stands("lane a to b ;", true, "place", "lane", "cross", "slow", "hears");
    }

    /** Behind what has been told these TOKENS can stand, the others are FAULT 2, and so is the end or not. */
    private static void stands(String told, boolean end, String... can) {
        String ahead = LEAD + told + (told.isEmpty() ? "" : " ");
        List<String> fine = Arrays.asList(can);
        for (String token : TOKENS) {
            TwoSeek x = new TwoSeek();
            Seek.town(x, ahead + token);
            boolean isThere = x.fault(0) == 2 && x.fault(1) == ahead.length();
            Seek.due("'" + ahead + token + "' can't stand", isThere, !fine.contains(token));
        }
        TwoSeek x = new TwoSeek();
        Seek.due(x, "'" + ahead + "' ends", Seek.town(x, ahead) != TwoSeek.NONE, end, end ? 0 : 10);
        Seek.due("the end's FAULT", x.fault(0), end ? 0 : 2);
        Seek.due("the end's place", x.fault(1), end ? -1 : ahead.length());
    }

    private static void cross() {
        Seek.says("cross: who cross on a LANE meet.");
        TwoSeek x = walkers(TWO);
        Seek.due(x, "without", x.when(1, 1, 0, 1), -1, 8);
        x = walkers(TWO + "cross;");
        Seek.due(x, "with", x.when(1, 1, 0, 1), 1, 0);
        Seek.due(x, "with", x.when(1, 1, 1, 0), 1, 0);
        x = walkers(RING + "cross;");
        Seek.due(x, "a to b, b to a", x.when(1, 1, 0, 1), 1, 0);
        Seek.due(x, "b to c, c to b", x.when(2, 2, 1, 2), 1, 0);
        Seek.due(x, "a to b, c to d: no LANE is the same", x.when(1, 1, 0, 2), -1, 8);
        Seek.due(x, "a to b, b to c, and back: one behind the other", x.when(1, 2, 0, 1), -1, 8);
    }

    // ---- term 2

    private static void ticks() {
        Seek.says("from two PLACES.");
        Seek.says("Else in each TICK (0, 1, ..):");
        Seek.says("Then they MEET (the TICKS done are WHEN), if they are in one PLACE,");
        for (int slow = 1; slow <= 4; slow++) {
            // FIRST waits in a; SECOND, three LANES off, goes in TICKS 0, slow, 2 slow
            TwoSeek x = walkers("place a;place b;place c;place d;lane a to b;lane b to c;lane c to d;slow " + slow + ";");
            Seek.due("way", Seek.clock(x, true, 1), 3);
            Seek.due(x, "one LANE", x.when(0, 3, 0, 1), 1, 0);
            Seek.due(x, "two LANES", x.when(0, 3, 0, 2), 1 + slow, 0);
            Seek.due(x, "three LANES", x.when(0, 3, 0, 3), 1 + 2 * slow, 0);
            Seek.due(x, "none", x.when(0, 3, 0, 0), 0, 0);
        }
    }

    private static void mean() {
        Seek.says("MEAN of two WAYS: of WHEN by all beginnings, each as likely as FIRST's and SECOND's likelihoods"
                + " times one another: a FRACTION;");
        TwoSeek x = walkers("place a first 2 second 3;place b first 5 second 7;lane a to b;");
        // of 7 times 10 it is 2 times 7 (a, b) and 5 times 3 (b, a) that take one TICK
        Seek.due(x, "one waits, one goes", x.mean(0, 1), true, 0);
        Seek.dueFraction(x, "mean", 29, 70);
        Seek.due(x, "one goes, one waits", x.mean(1, 0), true, 0);
        Seek.dueFraction(x, "mean", 29, 70);
        x = walkers("place a first 4 second 2;place b first 2 second 0;place c first 0 second 4;lane a to b;lane b to c;");
        // of 6 times 6: (a, a) 8: 0; (a, c) 16: 2; (b, a) 4: 1; (b, c) 8: 1; SECOND always goes by LANE 0
        Seek.due(x, "no PLACE c for FIRST", x.mean(0, 1), true, 0);
        Seek.dueFraction(x, "mean", 11, 9);
        Seek.due(x, "WORST", x.worst(0, 1), 2, 0);
    }

    // ---- term 3

    private static void parted() {
        Seek.says("PARTED are two PLACES (unlike) that no row of any length, walked by both"
                + " (slow 1, cross as told, no hearing, no MARKS), brings together.");
        // at the path's end LANE 1 is none: who is there waits, the other one comes
        TwoSeek x = Seek.in("place a;place b;place c;lane a to b;lane b to c;");
        Seek.due(x, "b goes to c by LANE 1, c waits", x.parted(1, 2, 0), 0, 0);
        Seek.due(x, "a goes to b by LANE 0, then b to c", x.parted(0, 2, 0), 0, 0);
        x = Seek.in(RING);
        Seek.due(x, "a and c", x.parted(0, 2, 0), 1, 0);
        Seek.due(x, "a and b", x.parted(0, 1, 0), 1, 0);
        Seek.due(x, "a and c turn", x.parted(0, 2, 1), 1, 0);
        Seek.due(x, "a and b turn", x.parted(0, 1, 1), 1, 0);
        x.shut(0, true);
        // (a, c) goes to (a, d) by LANE 0, which go to one another by LANE 1; to (d, b) by LANE 1, and so on
        Seek.due(x, "a waits by LANE 0, c does not", x.parted(0, 2, 0), 1, 0);
        Seek.due(x, "a has no LANE 0", x.parted(0, 2, 1), 0, 0);
        Seek.due(x, "a and b have none", x.parted(0, 1, 1), 1, 0);
        x = Seek.in(RING + "cross;");
        Seek.due(x, "a and c never cross", x.parted(0, 2, 0), 1, 0);
        x.shut(0, true);
        Seek.due(x, "a and d do by LANE 1", x.parted(0, 2, 0), 0, 0);
    }

    // ---- term 4

    private static void drawn() {
        Seek.says("DRAWN: both draw, each for itself,");
        TwoSeek x = walkers(TWO);
        for (int n = 0; n <= 16; n++) {
            // they begin in one PLACE in 2 of 4; else they MEET if one waits and the other one goes
            Seek.due(x, n + " of 16", x.drawn(0, 1, n, 1, 1), true, 0);
            Seek.due("CHANCE", x.top() * 256, (128 + n * (16 - n)) * x.bottom());
        }
    }

    private static void wander() {
        Seek.says("WANDER by a seed: both go from two PLACES, in each TICK by the STEP that is drawn:");
        // 0 becomes 12345: STEP 0; that becomes 1406932606: 21468 by 65,536, STEP 3
        TwoSeek x = Seek.in("place m;place p;place q;place r;lane m to p;lane m to q;lane m to r;");
        Seek.due(x, "FIRST waits in r, SECOND goes to r", x.wander(0, 3, 0), 1, 0);
        Seek.says("FIRST draws ahead of SECOND (slow 1, cross as told, no hearing, MARKS): WHEN,");
        Seek.due(x, "FIRST waits in m, SECOND has no LANE 2 in p", x.wander(0, 0, 1) > 1, true, 0);
        TwoSeek alike = Seek.in(RING + "slow 4;hears 3;");
        alike.marks(true);
        TwoSeek plain = Seek.in(RING);
        TwoSeek crossing = Seek.in(RING + "cross;");
        int sooner = 0;
        for (int seed = 0; seed < 500; seed++) {
            int ticks = plain.wander(seed, 0, 2);
            Seek.due(alike, "slow, hearing, MARKS: seed " + seed, alike.wander(seed, 0, 2), ticks, 0);
            int crossed = crossing.wander(seed, 0, 2);
            Seek.due(crossing, "none is later for crossing: seed " + seed, crossed <= ticks, true, 0);
            sooner += crossed < ticks ? 1 : 0;
        }
        Seek.due("some MEET by crossing", sooner > 0, true);
    }

    private static void three() {
        Seek.says("WHEN all THREE are together,");
        TwoSeek x = walkers("place a;place b;place c;lane b to a;lane b to c;");
        Seek.due(x, "a waits, b and c go", x.three(0, 1, 1, 12), 2, 0);
        Seek.due(x, "b waits with a once it is there", x.three(0, 1, 1, 11), 1, 0);
        Seek.due(x, "two of them alone", x.three(0, 1, 0, 12), -1, 8);
    }

    private static void shy() {
        Seek.says("from a told beginning");
        Seek.says(", a FRACTION; the CHANCE of FIRST's WAYS");
        Seek.says("The FRACTION is VALUE: so many WAYS of a TRAY, so many of another one, from two PLACES, a CAP");
        // FIRST goes by LANE 0 or 1 of m; SECOND waits, or comes from p: WHEN is 1 and NEVER, 7 by CAP
        TwoSeek x = walkers("place m;place p;place q;lane m to p;lane m to q;");
        Seek.fill(x, 0, 2, 1, 2, 0);
        Seek.fill(x, 1, 1, 0, 1, 2);
        // 1 (to p) is worth 1 with who waits there, 7 with who comes; 2 (to q) 7 and 7; 0 (waits) 7 and 1
        Seek.due(x, "1, 2 and 0", x.value(0, 3, 1, 2, 0, 1, 7), true, 0);
        Seek.dueFraction(x, "VALUE", 4, 1);
        chances(x, 1, 2, 0, 1, 1, 2);
        Seek.due(x, "1 and 2", x.value(0, 2, 1, 2, 0, 1, 7), true, 0);
        Seek.dueFraction(x, "VALUE", 7, 1);
        chances(x, 1, 1, 0, 1);
        Seek.due(x, "1 alone", x.value(0, 1, 1, 1, 0, 1, 7), true, 0);
        Seek.dueFraction(x, "VALUE", 1, 1);
        chances(x, 1, 1);
        Seek.due(x, "from one PLACE", x.value(0, 3, 1, 3, 2, 2, 100), true, 0);
        Seek.dueFraction(x, "VALUE", 0, 1);
        chances(x, 1, 1, 0, 1, 0, 1);
    }

    private static void chances(TwoSeek x, int... fractions) {
        for (int k = 0; 2 * k < fractions.length; k++) {
            Seek.due(x, "CHANCE " + k, x.chance(k), true, 0);
            Seek.dueFraction(x, "CHANCE " + k, fractions[2 * k], fractions[2 * k + 1]);
        }
        Seek.due(x, "no CHANCE more", x.chance(fractions.length / 2), false, 8);
    }

    // ---- term 5 and the promises

    private static void numbers() {
        Seek.says("Its bottom, above 0.");
        TwoSeek x = new TwoSeek();
        Seek.due("of a new object", x.bottom(), 1);
        x = walkers(TWO);
        Seek.due("no FRACTION has been told", x.bottom(), 1);
        x.mean(0, 1);
        Seek.due("of 1 by 2", x.bottom(), 2);
        x.value(3, 1, 3, 1, 0, 0, 1);
        Seek.due("of 0 by 1", x.bottom(), 1);
        Seek.says("The number in a place of a TRAY;");
        Seek.fill(x, 0, 3, 5, -1, Long.MIN_VALUE);
        Seek.due(x, "5", x.read(0, 0), 5, 0);
        Seek.due(x, "-1", x.read(0, 1), -1, 0);
        Seek.due(x, "the least", x.read(0, 2), Long.MIN_VALUE, 0);
        Seek.due(x, "none", x.read(0, 3), -1, 4);
    }

    private static void statuses() {
        TwoSeek x = walkers(TWO);
        Seek.says("2 no such PLACE, LANE, WAY. 3 the TRAY is MISSING.");
        Seek.due(x, "PLACE", x.place(2, 0), -1, 2);
        Seek.due(x, "LANE", x.shut(1, true), false, 2);
        Seek.due(x, "WAY", x.when(3, 0, 0, 1), -1, 2);
        Seek.due(x, "MISSING", x.read(0, 0), -1, 3);
        Seek.says("5 a number that can't be.");
        Seek.due(x, "agreed", x.agreed(4), -1, 5);
        Seek.says("8 there is none: NEVER. 9 it can't be. 10 a FAULT.");
        Seek.due(x, "NEVER", x.when(0, 0, 0, 1), -1, 8);
        Seek.due(x, "no MEAN", x.mean(0, 0), false, 9);
        Seek.due(x, "a FAULT", Seek.town(x, "place a;place a;"), -1, 10);
        Seek.says("0 else.");
        Seek.due(x, "else", x.when(0, 1, 0, 1), 1, 0);
    }

    /** An object in a town with three WAYS: 0 waits, 1 always goes by LANE 0, 2 always by LANE 1. */
    private static TwoSeek walkers(String text) {
        TwoSeek x = Seek.in(text);
        Seek.due("way", Seek.clock(x, true, 0), 0);
        Seek.due("way", Seek.clock(x, true, 1), 1);
        Seek.due("way", Seek.clock(x, true, 2), 2);
        return x;
    }
}
