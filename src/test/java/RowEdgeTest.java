/** The edges that the document names for SAME, AGREED, ALIKE, PARTED: term 3, promises 23 to 28. */
public final class RowEdgeTest {
    private static final int LEAST = Integer.MIN_VALUE;
    private static final int MOST = Integer.MAX_VALUE;
    private static final String TWO = "place a;place b;lane a to b;";
    private static final String PATH = "place a;place b;place c;lane a to b;lane b to c;";
    private static final String EIGHT = "place a;place b;place c;place d;place e;place f;place g;place h;";
    /** FIRST begins in a alone, SECOND in f alone, five LANES off. */
    private static final String FAR = "place a second 0;place b first 0 second 0;place c first 0 second 0;"
            + "place d first 0 second 0;place e first 0 second 0;place f first 0;";
    private static final String[] UNLIKELY = {"place a first 0;", "place a second 0;", "place a first 0;place b second 0 first 0;"};

    public static void main(String[] args) {
        same();
        sameAtMost();
        samePlaces();
        agreedSoMany();
        alikeSoMany();
        noneIsLikely();
        allSteps();
        doneOnce();
        missedAndLate();
        leastMissedFirst();
        ofSeveralTheFirst();
        passedOver();
        withoutHearing();
        agreedSteps();
        alikeSteps();
        parted();
        partedByRules();
        partedRefusals();
        turned();
        turnedByAllLanes();
        turnedWithShutLanes();
        Seek.end();
    }

    private static void rows(TwoSeek x, int[] first, int[] second) {
        for (int k = 0; k < first.length; k++) {
            Seek.due(x, "FIRST's STEP " + k, x.step(0, k), first[k], 0);
            Seek.due(x, "SECOND's STEP " + k, x.step(1, k), second[k], 0);
        }
        Seek.due(x, "no more of FIRST's", x.step(0, first.length), -1, 8);
        Seek.due(x, "no more of SECOND's", x.step(1, first.length), -1, 8);
    }

    private static void row(TwoSeek x, int... due) {
        for (int k = 0; k < due.length; k++) {
            Seek.due(x, "STEP " + k, x.alikeStep(k), due[k], 0);
        }
        Seek.due(x, "no more", x.alikeStep(due.length), -1, 8);
    }

    private static void best(TwoSeek x, String call, int got, int missed, int top, int bottom) {
        Seek.due(x, call, got, missed, 0);
        Seek.dueFraction(x, call, top, bottom);
    }

    private static void same() {
        Seek.says("SAME are two PLACES that nobody can tell apart by walking and seeing: of one SIGHT, with as many LANES,"
                + " and by LANES of like numbers one comes to SAME ones");
        TwoSeek x = Seek.in("place a sees 2;place b sees 2;place c sees 3;place d;");
        Seek.due(x, "of one SIGHT", x.same(0, 1), 1, 0);
        Seek.due(x, "of unlike SIGHT", x.same(0, 2), 0, 0);
        Seek.due(x, "of unlike SIGHT", x.same(3, 2), 0, 0);
        Seek.town(x, PATH);
        Seek.due(x, "one LANE and one", x.same(0, 2), 1, 0);
        Seek.due(x, "one LANE and two", x.same(0, 1), 0, 0);
        Seek.due(x, "two LANES and one", x.same(1, 2), 0, 0);
        // ends and middles of two paths: b's LANES go to a, d; e's to f, d
        Seek.town(x, "place a;place b;place d;place e;place f;lane a to b;lane e to f;lane b to d;lane e to d;");
        Seek.due(x, "like numbers", x.same(1, 3), 1, 0);
        Seek.due(x, "like numbers", x.same(0, 4), 1, 0);
        Seek.town(x, "place a;place b;place d;place e;place f;lane a to b;lane b to d;lane e to d;lane e to f;");
        Seek.due(x, "unlike numbers", x.same(1, 3), 0, 0);
        Seek.due(x, "unlike numbers", x.same(0, 4), 0, 0);
        // seven LANES on one sees something else: all are told apart
        Seek.town(x, EIGHT.replace("h;", "h sees 5;") + "lane a to b;lane c to d;lane e to f;lane g to h;"
                + "lane b to c;lane d to e;lane f to g;");
        for (int a = 0; a < 8; a++) {
            for (int b = 0; b < 8; b++) {
                Seek.due(x, a + " and " + b, x.same(a, b), a == b ? 1 : 0, 0);
            }
        }
        Seek.town(x, EIGHT + "lane a to b;lane c to d;lane e to f;lane g to h;lane b to c;lane d to e;lane f to g;");
        for (int a = 0; a < 8; a++) {
            Seek.due(x, a + " and what is as far from the other end", x.same(a, 7 - a), 1, 0);
        }
    }

    private static void sameAtMost() {
        Seek.says("(SHUT or not; the most that can be SAME)");
        TwoSeek x = Seek.in(TWO);
        Seek.due(x, "two", x.same(0, 1), 1, 0);
        Seek.town(x, "place a;place b;place c;place d;lane a to b;lane c to d;lane b to c;lane d to a;");
        for (int b = 0; b < 4; b++) {
            Seek.due(x, "a ring", x.same(0, b), 1, 0);
        }
        for (int lane = 0; lane < 4; lane++) {
            x.shut(lane, true);
            Seek.due(x, "SHUT or not", x.same(0, 1), 1, 0);
            Seek.due(x, "SHUT or not", x.same(0, 2), 1, 0);
        }
        Seek.town(x, PATH);
        x.shut(0, true);
        Seek.due(x, "SHUT or not", x.same(0, 2), 1, 0);
        Seek.due(x, "no LANES but SHUT ones are LANES", x.same(0, 1), 0, 0);
    }

    private static void samePlaces() {
        Seek.says("Whether two PLACES are SAME: 1 or 0 (2).");
        TwoSeek x = Seek.in(PATH);
        for (int p = 0; p < 3; p++) {
            Seek.due(x, "itself", x.same(p, p), 1, 0);
        }
        for (int bad : new int[] {-1, 3, 8, LEAST, MOST}) {
            Seek.due(x, "PLACE " + bad, x.same(bad, 0), -1, 2);
            Seek.due(x, "the other " + bad, x.same(0, bad), -1, 2);
            Seek.due(x, "both " + bad, x.same(bad, bad), -1, 2);
        }
    }

    private static void agreedSoMany() {
        Seek.says("AGREED are two rows of so many STEPS (1 to 3)");
        TwoSeek x = Seek.in(FAR + "lane a to b;lane b to c;lane c to d;lane d to e;lane e to f;");
        for (int many : new int[] {0, -1, 4, 5, LEAST, MOST}) {
            Seek.due(x, many + " STEPS", x.agreed(many), -1, 5);
        }
        best(x, "1 STEP", x.agreed(1), 1, 2, 1);
        rows(x, new int[] {0}, new int[] {0});
        best(x, "2 STEPS", x.agreed(2), 1, 3, 1);
        rows(x, new int[] {0, 0}, new int[] {0, 0});
        // five LANES off: three TICKS in which one of six STEPS is left over, FIRST's first
        best(x, "3 STEPS", x.agreed(3), 0, 3, 1);
        rows(x, new int[] {0, 1, 2}, new int[] {1, 1, 1});
    }

    private static void alikeSoMany() {
        Seek.says("ALIKE one row (1 to 5) for both");
        // the LANES from f have the numbers of those from a: no row ALIKE brings them together but by crossing
        TwoSeek x = Seek.in(FAR + "lane a to b;lane b to c;lane e to f;lane d to e;lane c to d;");
        for (int many : new int[] {0, -1, 6, 7, LEAST, MOST}) {
            Seek.due(x, many + " STEPS", x.alike(many), -1, 5);
        }
        best(x, "1 STEP", x.alike(1), 1, 2, 1);
        row(x, 0);
        best(x, "2 STEPS", x.alike(2), 1, 3, 1);
        row(x, 0, 0);
        best(x, "3 STEPS", x.alike(3), 1, 4, 1);
        best(x, "4 STEPS", x.alike(4), 1, 5, 1);
        best(x, "5 STEPS", x.alike(5), 1, 6, 1);
        row(x, 0, 0, 0, 0, 0);
        Seek.town(x, FAR + "lane a to b;lane b to c;lane e to f;lane d to e;lane c to d;cross;");
        best(x, "2 STEPS", x.alike(2), 1, 3, 1);
        best(x, "3 STEPS, and they cross", x.alike(3), 0, 3, 1);
        row(x, 1, 2, 2);
        // FIRST waits in a, where there is no LANE 1, by which SECOND comes; all else brings them no nearer
        Seek.town(x, FAR + "place z first 0 second 0;lane f to z;lane f to e;lane e to d;lane d to c;lane c to b;lane b to a;");
        best(x, "4 STEPS are too few", x.alike(4), 1, 5, 1);
        row(x, 0, 0, 0, 0);
        best(x, "5 STEPS", x.alike(5), 0, 5, 1);
        row(x, 2, 2, 2, 2, 2);
    }

    private static void noneIsLikely() {
        Seek.says("MISSED; the FRACTION is LATE by all likelihoods (5; 9: no beginning is likely).");
        TwoSeek x = Seek.in(TWO);
        best(x, "likely", x.agreed(1), 0, 1, 2);
        for (String town : UNLIKELY) {
            Seek.town(x, town);
            for (int many = 1; many <= 3; many++) {
                Seek.due(x, "agreed(" + many + ")", x.agreed(many), -1, 9);
            }
            for (int many = 1; many <= 5; many++) {
                Seek.due(x, "alike(" + many + ")", x.alike(many), -1, 9);
            }
            for (int bad : new int[] {-1, 0, 6, MOST}) {
                Seek.due(x, "5 ahead of 9", x.agreed(bad), -1, 5);
                Seek.due(x, "5 ahead of 9", x.alike(bad), -1, 5);
            }
        }
        x.town(0);
        Seek.due(x, "no PLACES", x.agreed(1), -1, 9);
        Seek.due(x, "no PLACES", x.alike(1), -1, 9);
        Seek.dueFraction(x, "as it was", 1, 2);
        // beginnings in one PLACE are likely ones that are not MISSED, nor LATE
        Seek.town(x, "place a first 9 second 9;place b first 0 second 0;");
        best(x, "one beginning", x.agreed(1), 0, 0, 1);
        best(x, "one beginning", x.alike(5), 0, 0, 1);
    }

    private static void allSteps() {
        Seek.says("A STEP is 0: to wait, or 1 to 4");
        // FIRST from m to s by 4, SECOND from t to s, where it can go on alone
        String star = "lane m to p;lane m to q;lane m to r;lane m to s;";
        TwoSeek x = Seek.in("place m second 0;place p first 0 second 0;place q first 0 second 0;place r first 0 second 0;"
                + "place s first 0 second 0;place t first 0;" + star + "lane t to s;");
        best(x, "FIRST by 4", x.agreed(1), 0, 1, 1);
        rows(x, new int[] {4}, new int[] {1});
        Seek.town(x, "place m first 0;place p first 0 second 0;place q first 0 second 0;place r first 0 second 0;"
                + "place s first 0 second 0;place t second 0;" + star + "lane t to s;");
        best(x, "SECOND by 4", x.agreed(1), 0, 1, 1);
        rows(x, new int[] {1}, new int[] {4});
        // n's LANES: q, r, p, s
        Seek.town(x, "place m second 0;place p first 0 second 0;place q first 0 second 0;place r first 0 second 0;"
                + "place s first 0 second 0;place n first 0;" + star + "lane n to q;lane n to r;lane n to p;lane n to s;");
        best(x, "both by 4", x.alike(1), 0, 1, 1);
        row(x, 4);
        best(x, "both by 1, to p and q, then by 1 and 2 to m and n: no; by 4", x.alike(3), 0, 1, 1);
        row(x, 4, 0, 0);
        Seek.due(x, "both by 4", x.parted(0, 5, 0), 0, 0);
    }

    private static void doneOnce() {
        Seek.says("done once from all likely beginnings");
        // the row 2 again and again would bring them together, once it does not
        TwoSeek x = Seek.in(FAR + "lane a to b;lane b to c;lane c to d;lane d to e;lane e to f;");
        for (int many = 1; many <= 2; many++) {
            best(x, "too short", x.agreed(many), 1, many + 1, 1);
            best(x, "too short", x.alike(many), 1, many + 1, 1);
        }
        Seek.says("from which they do not MEET in so many TICKS");
        Seek.town(x, "place a second 0;place b first 0 second 0;place c first 0;lane a to b;lane b to c;");
        best(x, "in one TICK", x.agreed(1), 0, 1, 1);
        rows(x, new int[] {1}, new int[] {1});
        best(x, "in the first of three", x.agreed(3), 0, 1, 1);
        rows(x, new int[] {1, 0, 0}, new int[] {1, 0, 0});
        best(x, "in the first of five", x.alike(5), 0, 1, 1);
        row(x, 1, 0, 0, 0, 0);
    }

    private static void missedAndLate() {
        Seek.says("LATE: those of all times WHEN (one more than there are STEPS, if they do not)");
        TwoSeek x = Seek.in("place a;place b;");
        // two of four beginnings are MISSED: half of many + 1
        int[] top = {1, 3, 2, 5, 3};
        int[] bottom = {1, 2, 1, 2, 1};
        for (int many = 1; many <= 3; many++) {
            best(x, "agreed(" + many + ")", x.agreed(many), 2, top[many - 1], bottom[many - 1]);
            rows(x, new int[many], new int[many]);
        }
        for (int many = 1; many <= 5; many++) {
            best(x, "alike(" + many + ")", x.alike(many), 2, top[many - 1], bottom[many - 1]);
            row(x, new int[many]);
        }
        Seek.says("MISSED: the beginnings' likelihoods from which they do not MEET");
        Seek.town(x, "place a first 9 second 9;place b first 9 second 9;place c first 9 second 9;place d first 9 second 9;"
                + "place e first 9 second 9;place f first 9 second 9;place g first 9 second 9;place h first 9 second 9;");
        // 56 of 64 beginnings, each of likelihood 81
        best(x, "the most", x.agreed(1), 56 * 81, 7, 4);
        best(x, "the most", x.alike(1), 56 * 81, 7, 4);
        Seek.town(x, "place a first 3 second 5;place b first 2 second 7;");
        best(x, "3 times 7 and 2 times 5", x.agreed(1), 31, 31, 30);
    }

    private static void leastMissedFirst() {
        Seek.says("The best: least MISSED, then least LATE");
        // c between b (LANE 0) and a (LANE 1), FIRST in b. By 1 to c: from b and a at 1, from b and c never,
        // LATE 2 + 3; all wait, but who is in c goes to a, and then by 1: all at 2, LATE 4 + 2
        TwoSeek x = Seek.in("place a first 0 second 2;place b second 2;place c first 0;lane c to b;lane c to a;");
        best(x, "less MISSED, more LATE", x.alike(2), 0, 6, 5);
        row(x, 2, 1);
        x = Seek.in("place a first 2 second 0;place b first 0 second 2;place c first 2 second 2;place d second 2;"
                + "lane d to c;lane a to d;lane a to b;");
        best(x, "less MISSED, more LATE", x.agreed(2), 2, 23, 15);
        rows(x, new int[] {1, 0}, new int[] {1, 1});
        // two LANES off: one could wait and the other one come in two TICKS, which is later than both at once
        x = Seek.in("place a second 0;place b first 0 second 0;place c first 0;lane a to b;lane b to c;");
        best(x, "less LATE", x.agreed(2), 0, 1, 1);
        rows(x, new int[] {1, 0}, new int[] {1, 0});
    }

    private static void ofSeveralTheFirst() {
        Seek.says("of several the first: TICK by TICK FIRST's lesser STEP, then SECOND's.");
        TwoSeek x = Seek.in(TWO);
        best(x, "SECOND goes, not FIRST", x.agreed(1), 0, 1, 2);
        rows(x, new int[] {0}, new int[] {1});
        // both by LANE 0 to c or by LANE 1 to d
        Seek.town(x, "place a second 0;place b first 0;place c first 0 second 0;place d first 0 second 0;"
                + "lane a to c;lane b to c;lane a to d;lane b to d;");
        best(x, "by 1, not by 2", x.agreed(1), 0, 1, 1);
        rows(x, new int[] {1}, new int[] {1});
        best(x, "by 1, not by 2", x.alike(1), 0, 1, 1);
        row(x, 1);
        // FIRST in b or c, SECOND in d between them: it goes to c (by 1) or to b (by 2), then both come back
        // to d, b's LANE 1 and c's LANE 0. In TICK 0 SECOND's 1 is less than its 2, though FIRST's next STEP
        // is more then
        Seek.town(x, "place a first 0 second 0;place b second 0;place c second 0;place d first 0;"
                + "lane a to b;lane c to d;lane d to b;");
        best(x, "TICK by TICK", x.agreed(2), 0, 3, 2);
        rows(x, new int[] {0, 2}, new int[] {1, 1});
    }

    private static void passedOver() {
        Seek.says("(slow and cross count; SECOND's STEP of a TICK in which it stands is passed over)");
        // five LANES off: FIRST goes by 1, 2, 1 from a to d, SECOND from f by 1 in TICK 0 and 1 in TICK 2
        String far = FAR + "lane a to b;lane c to d;lane d to e;lane e to f;lane b to c;";
        TwoSeek x = Seek.in(far + "slow 2;");
        best(x, "ALIKE", x.alike(3), 0, 3, 1);
        row(x, 1, 2, 1);
        best(x, "AGREED", x.agreed(3), 0, 3, 1);
        rows(x, new int[] {1, 2, 1}, new int[] {1, 0, 1});
        for (int slow = 3; slow <= 4; slow++) {
            Seek.town(x, far + "slow " + slow + ";");
            best(x, "SECOND does one STEP alone", x.alike(3), 1, 4, 1);
            best(x, "SECOND does one STEP alone", x.agreed(3), 1, 4, 1);
            best(x, "FIRST goes to e", x.alike(4), 0, 4, 1);
        }
        // both go to where the other one was; in TICK 1 FIRST alone goes
        Seek.town(x, TWO + "slow 2;");
        best(x, "slow", x.alike(1), 2, 1, 1);
        best(x, "slow", x.alike(2), 0, 1, 1);
        row(x, 0, 1);
        Seek.town(x, TWO + "cross;");
        best(x, "cross", x.alike(1), 0, 1, 2);
        row(x, 1);
        Seek.town(x, TWO);
        best(x, "no cross", x.alike(1), 2, 1, 1);
        best(x, "no cross", x.alike(5), 2, 3, 1);
    }

    private static void withoutHearing() {
        Seek.says("without hearing and MARKS");
        // hearing, SECOND would come; by MARKS, it would go back behind FIRST in TICK 1, who waits there then
        TwoSeek x = new TwoSeek();
        for (int round = 0; round < 4; round++) {
            Seek.town(x, TWO + (round % 2 == 0 ? "" : "hears 3;"));
            x.marks(round >= 2);
            best(x, "ALIKE", x.alike(1), 2, 1, 1);
            best(x, "ALIKE", x.alike(5), 2, 3, 1);
            row(x, 0, 0, 0, 0, 0);
            best(x, "AGREED", x.agreed(2), 0, 1, 2);
            rows(x, new int[] {0, 0}, new int[] {1, 0});
        }
    }

    private static void agreedSteps() {
        Seek.says("A STEP of FIRST's row (who 0), SECOND's (1), by agreed() latest with STATUS 0 (5; 8: none such).");
        TwoSeek x = Seek.in(PATH);
        for (int who = 0; who <= 1; who++) {
            Seek.due(x, "none yet", x.step(who, 0), -1, 8);
        }
        x.alike(5);
        Seek.due(x, "alike() is not agreed()", x.step(0, 0), -1, 8);
        for (int who : new int[] {-1, 2, LEAST, MOST}) {
            Seek.due(x, "who " + who + ", 5 ahead of 8", x.step(who, 0), -1, 5);
        }
        x.agreed(3);
        for (int who = 0; who <= 1; who++) {
            for (int k : new int[] {-1, 3, 5, LEAST, MOST}) {
                Seek.due(x, "STEP " + k, x.step(who, k), -1, 8);
            }
            Seek.due("STEP 2", x.step(who, 2) >= 0, true);
        }
        for (int who : new int[] {-1, 2, LEAST, MOST}) {
            Seek.due(x, "who " + who, x.step(who, 0), -1, 5);
            Seek.due(x, "who " + who + ", 5 ahead of 8", x.step(who, 3), -1, 5);
        }
        Seek.town(x, FAR + "lane a to b;lane b to c;lane c to d;lane d to e;lane e to f;");
        x.agreed(3);
        rows(x, new int[] {0, 1, 2}, new int[] {1, 1, 1});
        x.agreed(4);
        rows(x, new int[] {0, 1, 2}, new int[] {1, 1, 1});
        Seek.town(x, UNLIKELY[0]);
        x.agreed(1);
        x.town(0);
        x.agreed(1);
        x.alike(1);
        rows(x, new int[] {0, 1, 2}, new int[] {1, 1, 1});
        Seek.town(x, TWO);
        x.agreed(1);
        rows(x, new int[] {0}, new int[] {1});
    }

    private static void alikeSteps() {
        Seek.says("A STEP of the row, by alike() latest with STATUS 0 (8: none such).");
        TwoSeek x = Seek.in(FAR + "place z first 0 second 0;lane f to z;lane f to e;lane e to d;lane d to c;lane c to b;"
                + "lane b to a;");
        Seek.due(x, "none yet", x.alikeStep(0), -1, 8);
        x.agreed(3);
        Seek.due(x, "agreed() is not alike()", x.alikeStep(0), -1, 8);
        x.alike(5);
        for (int k : new int[] {-1, 5, 6, LEAST, MOST}) {
            Seek.due(x, "STEP " + k, x.alikeStep(k), -1, 8);
        }
        x.alike(6);
        x.alike(0);
        row(x, 2, 2, 2, 2, 2);
        Seek.town(x, UNLIKELY[1]);
        x.alike(1);
        x.town(0);
        x.alike(1);
        x.agreed(3);
        row(x, 2, 2, 2, 2, 2);
        Seek.town(x, TWO);
        x.alike(1);
        row(x, 0);
    }

    private static void parted() {
        Seek.says("PARTED are two PLACES (unlike) that no row of any length");
        TwoSeek x = Seek.in(TWO);
        Seek.due(x, "two", x.parted(0, 1, 0), 1, 0);
        Seek.town(x, PATH);
        Seek.due(x, "one STEP", x.parted(0, 2, 0), 0, 0);
        Seek.due(x, "two STEPS", x.parted(0, 1, 0), 0, 0);
        // no row of less than 12 STEPS brings a and c together
        Seek.town(x, EIGHT + "lane g to b;lane a to c;lane h to d;lane g to h;lane e to f;lane a to d;lane c to f;lane b to h;");
        Seek.due(x, "twelve STEPS", x.parted(0, 2, 0), 0, 0);
        Seek.due(x, "twelve STEPS", x.parted(2, 0, 0), 0, 0);
        Seek.town(x, EIGHT + "lane a to b;lane c to d;lane e to f;lane g to h;lane b to c;lane d to e;lane f to g;lane h to a;");
        for (int b = 1; b < 8; b++) {
            Seek.due(x, "a ring of eight", x.parted(0, b, 0), 1, 0);
        }
        Seek.town(x, EIGHT);
        for (int b = 0; b < 7; b++) {
            Seek.due(x, "no LANES", x.parted(7, b, 0), 1, 0);
        }
        // what one call has found is not the next one's
        Seek.town(x, "place a;place b;place c;place d;place e;lane a to b;lane c to d;lane d to e;");
        for (int round = 0; round < 2; round++) {
            Seek.due(x, "c and e", x.parted(2, 4, 0), 0, 0);
            Seek.due(x, "a and b", x.parted(0, 1, 0), 1, 0);
            Seek.due(x, "c and e", x.parted(2, 4, 1), 0, 0);
            Seek.due(x, "a and b", x.parted(0, 1, 1), 1, 0);
        }
    }

    private static void partedByRules() {
        Seek.says("(slow 1, cross as told, no hearing, no MARKS)");
        TwoSeek x = new TwoSeek();
        for (int slow = 1; slow <= 4; slow++) {
            Seek.town(x, TWO + "slow " + slow + ";hears 3;");
            x.marks(true);
            Seek.due(x, "not slow, no hearing", x.parted(0, 1, 0), 1, 0);
            Seek.town(x, TWO + "cross;slow " + slow + ";");
            Seek.due(x, "cross", x.parted(0, 1, 0), 0, 0);
        }
        Seek.town(x, PATH);
        x.shut(1, true);
        Seek.due(x, "c is SHUT off", x.parted(0, 2, 0), 1, 0);
        Seek.due(x, "c is SHUT off", x.parted(1, 2, 0), 1, 0);
        Seek.due(x, "a and b change", x.parted(0, 1, 0), 1, 0);
    }

    private static void partedRefusals() {
        Seek.says("Whether two PLACES are PARTED (what 0), TURNED (1): 1 or 0 (2: like ones, too; 5).");
        TwoSeek x = Seek.in(PATH);
        for (int what = 0; what <= 1; what++) {
            for (int p = 0; p < 3; p++) {
                Seek.due(x, "like ones", x.parted(p, p, what), -1, 2);
            }
            for (int bad : new int[] {-1, 3, 8, LEAST, MOST}) {
                Seek.due(x, "PLACE " + bad, x.parted(bad, 0, what), -1, 2);
                Seek.due(x, "the other " + bad, x.parted(0, bad, what), -1, 2);
            }
        }
        for (int what : new int[] {-1, 2, LEAST, MOST}) {
            Seek.due(x, "what " + what, x.parted(0, 1, what), -1, 5);
            Seek.due(x, "2 ahead of 5", x.parted(1, 1, what), -1, 2);
            Seek.due(x, "2 ahead of 5", x.parted(0, 3, what), -1, 2);
        }
    }

    private static void turned() {
        Seek.says("there is a way to put each PLACE on one of like SIGHT so that LANES of like numbers lead to what is put"
                + " on what they led to, which puts the one on the other, and the other on the one");
        TwoSeek x = Seek.in(TWO);
        Seek.due(x, "two", x.parted(0, 1, 1), 1, 0);
        Seek.town(x, "place a sees 5;place b sees 5;lane a to b;");
        Seek.due(x, "like SIGHT", x.parted(0, 1, 1), 1, 0);
        Seek.town(x, "place a sees 5;place b sees 4;lane a to b;");
        Seek.due(x, "unlike SIGHT", x.parted(0, 1, 1), 0, 0);
        Seek.town(x, "place a;place b;");
        Seek.due(x, "no LANES", x.parted(0, 1, 1), 1, 0);
        Seek.town(x, PATH);
        for (int b = 1; b < 3; b++) {
            Seek.due(x, "a path of three", x.parted(0, b, 1), 0, 0);
        }
        // of four: b's LANES: 0 to a, 1 to c; c's as they stand
        Seek.town(x, "place a;place b;place c;place d;lane a to b;lane d to c;lane b to c;");
        Seek.due(x, "ends of four", x.parted(0, 3, 1), 1, 0);
        Seek.due(x, "middles of four", x.parted(1, 2, 1), 1, 0);
        Seek.due(x, "end and middle", x.parted(0, 1, 1), 0, 0);
        Seek.town(x, "place a;place b;place c;place d;lane a to b;lane b to c;lane d to c;");
        Seek.due(x, "unlike numbers", x.parted(0, 3, 1), 0, 0);
        // a ring of eight, by 0 and 1 by turns: each on each but for turns by an even way, which come back
        // to the first after half the round alone
        Seek.town(x, EIGHT + "lane a to b;lane c to d;lane e to f;lane g to h;lane b to c;lane d to e;lane f to g;lane h to a;");
        int[] due = {-1, 1, 0, 1, 1, 1, 0, 1};
        for (int b = 1; b < 8; b++) {
            Seek.due(x, "a ring of eight: a and " + b, x.parted(0, b, 1), due[b], 0);
        }
        Seek.town(x, EIGHT.replace("h;", "h sees 1;")
                + "lane a to b;lane c to d;lane e to f;lane g to h;lane b to c;lane d to e;lane f to g;lane h to a;");
        for (int b = 1; b < 8; b++) {
            Seek.due(x, "a ring of eight, one of which is unlike", x.parted(0, b, 1), 0, 0);
        }
    }

    private static void turnedByAllLanes() {
        Seek.says("so that LANES of like numbers lead to what is put on what they led to");
        // four LANES at m and at n each, to the same four: like numbers, and two that are changed
        String places = "place m;place p;place q;place r;place s;place n;lane m to p;lane m to q;lane m to r;lane m to s;";
        TwoSeek x = Seek.in(places + "lane n to p;lane n to q;lane n to r;lane n to s;");
        Seek.due(x, "p's LANE 0 leads to m, LANE 1 to n", x.parted(0, 5, 1), 0, 0);
        String eight = "place m;place p;place q;place r;place n;place u;place v;place w;lane m to p;lane m to q;lane m to r;"
                + "lane n to u;lane n to v;lane n to w;";
        Seek.town(x, eight + "lane m to n;");
        Seek.due(x, "m and n by their LANE 3", x.parted(0, 4, 1), 1, 0);
        Seek.due(x, "r and w", x.parted(3, 7, 1), 1, 0);
        Seek.due(x, "r and v", x.parted(3, 6, 1), 0, 0);
        Seek.town(x, eight + "lane m to w;lane r to w;");
        Seek.due(x, "m has a LANE 3, n has none", x.parted(0, 4, 1), 0, 0);
        Seek.due(x, "n has none, m has a LANE 3", x.parted(4, 0, 1), 0, 0);
        x.shut(6, true);
        x.shut(7, true);
        Seek.due(x, "LANE 3 is SHUT", x.parted(0, 4, 1), 1, 0);
    }

    private static void turnedWithShutLanes() {
        Seek.says("(SHUT LANES are none there, but keep their number.)");
        TwoSeek x = Seek.in(PATH);
        x.shut(1, true);
        Seek.due(x, "a and b alone", x.parted(0, 1, 1), 1, 0);
        Seek.due(x, "c has none", x.parted(0, 2, 1), 0, 0);
        x.shut(0, true);
        for (int b = 1; b < 3; b++) {
            Seek.due(x, "none at all", x.parted(0, b, 1), 1, 0);
        }
        x.shut(1, false);
        Seek.due(x, "b's is LANE 1, c's LANE 0", x.parted(1, 2, 1), 0, 0);
        Seek.town(x, "place a;place b;place c;place d;lane a to b;lane c to d;lane b to c;lane d to a;");
        x.shut(0, true);
        Seek.due(x, "a and b: LANE 1 alone", x.parted(0, 1, 1), 1, 0);
        Seek.due(x, "a and c: LANE 1 alone, LANES 0 and 1", x.parted(0, 2, 1), 0, 0);
        x.shut(1, true);
        Seek.due(x, "a and c: LANE 1 alone", x.parted(0, 2, 1), 1, 0);
    }
}
