import java.util.ArrayList;
import java.util.List;
import java.util.function.ToLongFunction;

/**
 * Term 5: each call with each STATUS that it can have gives NONE, or false, and leaves all as it was. Two
 * objects are brought to the same state; one makes the call; then both are asked all that can be asked.
 */
public final class RefusalTest {
    private static final String TOWN = "place a sees 1 first 2;place b;place c sees 5 second 3;place d first 0;"
            + "lane a to b;lane b to c;lane c to d;lane d to a;lane a to c;slow 2;hears 1;cross;";
    private static final String NOBODY = "place a first 0;place b first 0;lane a to b;";
    private static final String APART = "place a;place b;";

    private record Call(String name, int status, ToLongFunction<TwoSeek> call) {
    }

    private interface Is {
        boolean test(TwoSeek x);
    }

    private static final List<Call> REFUSED = new ArrayList<>();
    private static final List<Call> UNLIKELY = new ArrayList<>();
    private static final List<Call> NEVER = new ArrayList<>();
    private static final List<Call> ANEW = new ArrayList<>();
    private static final List<Call> ASKED = new ArrayList<>();

    public static void main(String[] args) {
        trays();
        town();
        ways();
        rows();
        lots();
        unlikely();
        never();
        anew();
        asked();
        Seek.says("A call with another STATUS than 0 gives NONE, or false, and changes nothing but STATUS");
        eachOf(REFUSED, TOWN);
        eachOf(UNLIKELY, NOBODY);
        eachOf(NEVER, APART);
        eachOfANewObject();
        allTogether();
        townWith10();
        toldLatest();
        Seek.says("Nothing is promised beyond the answers and state changes described above");
        askingChangesNothing();
        Seek.end();
    }

    private static void no(int status, String name, ToLongFunction<TwoSeek> call) {
        REFUSED.add(new Call(name, status, call));
    }

    private static void not(int status, String name, Is call) {
        REFUSED.add(new Call(name, status, x -> call.test(x) ? 1 : -1));
    }

    private static void trays() {
        not(1, "tray", x -> x.tray(4, 0, 1));
        not(1, "tray below", x -> x.tray(-1, 0, 1));
        not(1, "sort", x -> x.tray(0, 4, 1));
        not(1, "sort below", x -> x.tray(0, -1, 1));
        not(5, "65", x -> x.tray(0, 0, 65));
        not(6, "-1", x -> x.tray(0, 0, -1));
        not(1, "write", x -> x.write(4, 0, 1));
        not(3, "write to MISSING", x -> x.write(2, 0, 1));
        not(4, "write behind", x -> x.write(0, 4, 1));
        not(4, "write ahead", x -> x.write(0, -1, 1));
        no(1, "read", x -> x.read(-1, 0));
        no(3, "read of MISSING", x -> x.read(2, 0));
        no(4, "read behind", x -> x.read(0, 4));
        no(4, "read ahead", x -> x.read(0, -1));
        not(1, "pour", x -> x.pour(4, 0, 0, 0, 1));
        not(1, "pour to", x -> x.pour(0, 0, 4, 0, 1));
        not(3, "pour MISSING", x -> x.pour(2, 0, 0, 0, 1));
        not(3, "pour to MISSING", x -> x.pour(0, 0, 2, 0, 1));
        not(11, "pour to unlike", x -> x.pour(0, 0, 1, 0, 1));
        not(6, "pour -1", x -> x.pour(0, 0, 0, 1, -1));
        not(4, "pour too many", x -> x.pour(0, 0, 0, 1, 4));
        not(4, "pour far too many", x -> x.pour(0, 1, 0, 0, 4));
        not(4, "pour from ahead", x -> x.pour(0, -1, 0, 1, 2));
        not(4, "pour to ahead", x -> x.pour(0, 1, 0, -1, 2));
    }

    private static void town() {
        no(5, "town -1", x -> x.town(-1));
        no(5, "town 41", x -> x.town(41));
        no(5, "many 3", x -> x.many(3));
        no(5, "many -1", x -> x.many(-1));
        no(2, "place 4", x -> x.place(4, 0));
        no(2, "place -1", x -> x.place(-1, 0));
        no(5, "place what 6", x -> x.place(0, 6));
        no(5, "place what -1", x -> x.place(0, -1));
        no(8, "place without LANE", x -> x.place(1, 4));
        not(2, "shut 5", x -> x.shut(5, true));
        not(2, "shut -1", x -> x.shut(-1, false));
        no(2, "distance", x -> x.distance(0, 4));
        no(2, "distance from", x -> x.distance(-1, 0));
    }

    private static void ways() {
        no(1, "clock", x -> x.clock(4, 1, true));
        no(3, "clock of MISSING", x -> x.clock(2, 1, true));
        no(5, "clock of 0", x -> x.clock(0, 0, true));
        no(5, "clock of 25", x -> x.clock(1, 25, true));
        no(4, "clock of too few", x -> x.clock(0, 5, true));
        no(5, "clock of a number", x -> x.clock(1, 24, true));
        no(7, "clock", x -> x.clock(0, 1, true));
        no(1, "sight", x -> x.sight(-1));
        no(3, "sight of MISSING", x -> x.sight(2));
        no(4, "sight of too few", x -> x.sight(0));
        no(5, "sight of a number", x -> x.sight(1));
        no(7, "sight", x -> x.sight(3));
        no(2, "when: WAY", x -> x.when(12, 0, 0, 0));
        no(2, "when: the other", x -> x.when(0, -1, 0, 0));
        no(2, "when: PLACE", x -> x.when(0, 0, 4, 0));
        no(2, "when: the other PLACE", x -> x.when(0, 0, 0, -1));
        no(1, "judge", x -> x.judge(0, 0, 4));
        no(2, "judge: WAY", x -> x.judge(12, 0, 3));
        no(2, "judge: the other", x -> x.judge(0, -1, 3));
        no(3, "judge by MISSING", x -> x.judge(0, 0, 2));
        no(4, "judge by too few", x -> x.judge(0, 0, 0));
        not(2, "mean", x -> x.mean(12, 0));
        not(2, "mean: the other", x -> x.mean(0, -1));
        no(2, "worst", x -> x.worst(12, 0));
        no(2, "worst: the other", x -> x.worst(0, -1));
    }

    private static void rows() {
        no(2, "same", x -> x.same(4, 0));
        no(2, "same: the other", x -> x.same(0, -1));
        no(5, "agreed 0", x -> x.agreed(0));
        no(5, "agreed 4", x -> x.agreed(4));
        no(5, "step of who", x -> x.step(2, 0));
        no(5, "step of who below", x -> x.step(-1, 0));
        no(8, "step 2", x -> x.step(0, 2));
        no(8, "step -1", x -> x.step(1, -1));
        no(5, "alike 0", x -> x.alike(0));
        no(5, "alike 6", x -> x.alike(6));
        no(8, "alikeStep 3", x -> x.alikeStep(3));
        no(8, "alikeStep -1", x -> x.alikeStep(-1));
        no(2, "parted", x -> x.parted(4, 0, 0));
        no(2, "parted: the other", x -> x.parted(0, -1, 1));
        no(2, "parted: like ones", x -> x.parted(1, 1, 0));
        no(5, "parted what 2", x -> x.parted(0, 1, 2));
        no(5, "parted what -1", x -> x.parted(0, 1, -1));
    }

    private static void lots() {
        not(2, "drawn", x -> x.drawn(12, 0, 8, 1, 1));
        not(2, "drawn: the other", x -> x.drawn(0, -1, 8, 1, 1));
        not(5, "drawn 17", x -> x.drawn(0, 1, 17, 1, 1));
        not(5, "drawn -1", x -> x.drawn(0, 1, -1, 1, 1));
        not(5, "drawn 25 TICKS", x -> x.drawn(0, 1, 8, 25, 1));
        not(5, "drawn 0 TICKS", x -> x.drawn(0, 1, 8, 0, 1));
        not(5, "drawn 6 times", x -> x.drawn(0, 1, 8, 1, 6));
        not(5, "drawn 0 times", x -> x.drawn(0, 1, 8, 1, 0));
        no(2, "bestDrawn", x -> x.bestDrawn(12, 0, 1, 1));
        no(2, "bestDrawn: the other", x -> x.bestDrawn(0, -1, 1, 1));
        no(5, "bestDrawn 25 TICKS", x -> x.bestDrawn(0, 1, 25, 1));
        no(5, "bestDrawn 0 TICKS", x -> x.bestDrawn(0, 1, 0, 1));
        no(5, "bestDrawn 6 times", x -> x.bestDrawn(0, 1, 1, 6));
        no(5, "bestDrawn 0 times", x -> x.bestDrawn(0, 1, 1, 0));
        no(2, "three", x -> x.three(12, 0, 0, 0));
        no(2, "three: the second", x -> x.three(0, -1, 0, 0));
        no(2, "three: the third", x -> x.three(0, 0, 12, 0));
        no(2, "three from 4", x -> x.three(0, 0, 0, 4));
        no(2, "three from 40", x -> x.three(0, 0, 0, 40));
        no(2, "three from 400", x -> x.three(0, 0, 0, 400));
        no(2, "three from 1000", x -> x.three(0, 0, 0, 1000));
        no(2, "three from -1", x -> x.three(0, 0, 0, -1));
        no(8, "three who wait", x -> x.three(0, 0, 0, 12));
        not(1, "value", x -> x.value(4, 1, 0, 1, 0, 1, 9));
        not(1, "value: the others", x -> x.value(0, 1, -1, 1, 0, 1, 9));
        not(2, "value: PLACE", x -> x.value(0, 1, 0, 1, 4, 1, 9));
        not(2, "value: the other PLACE", x -> x.value(0, 1, 0, 1, 0, -1, 9));
        not(3, "value of MISSING", x -> x.value(2, 1, 0, 1, 0, 1, 9));
        not(3, "value: others MISSING", x -> x.value(0, 1, 2, 1, 0, 1, 9));
        not(5, "value of 4", x -> x.value(0, 4, 0, 1, 0, 1, 9));
        not(5, "value of 0", x -> x.value(0, 0, 0, 1, 0, 1, 9));
        not(5, "value: others 4", x -> x.value(0, 1, 0, 4, 0, 1, 9));
        not(5, "value: others 0", x -> x.value(0, 1, 0, 0, 0, 1, 9));
        not(5, "value: CAP 0", x -> x.value(0, 1, 0, 1, 0, 1, 0));
        not(5, "value: CAP 101", x -> x.value(0, 1, 0, 1, 0, 1, 101));
        not(2, "value: WAY", x -> x.value(1, 1, 0, 1, 0, 1, 9));
        not(2, "value: WAY of the others", x -> x.value(0, 1, 1, 1, 0, 1, 9));
        not(8, "chance 2", x -> x.chance(2));
        not(8, "chance -1", x -> x.chance(-1));
        no(2, "door", x -> x.door(12, 0));
        no(2, "door: the other", x -> x.door(0, -1));
        no(2, "wander", x -> x.wander(0, 4, 0));
        no(2, "wander: the other", x -> x.wander(0, 0, -1));
        no(5, "wander -1", x -> x.wander(-1, 0, 1));
    }

    private static void unlikely() {
        UNLIKELY.add(new Call("mean", 9, x -> x.mean(0, 1) ? 1 : -1));
        UNLIKELY.add(new Call("worst", 9, x -> x.worst(0, 1)));
        UNLIKELY.add(new Call("agreed", 9, x -> x.agreed(1)));
        UNLIKELY.add(new Call("alike", 9, x -> x.alike(1)));
        UNLIKELY.add(new Call("drawn", 9, x -> x.drawn(0, 1, 8, 1, 1) ? 1 : -1));
        UNLIKELY.add(new Call("bestDrawn", 9, x -> x.bestDrawn(0, 1, 1, 1)));
        UNLIKELY.add(new Call("door", 9, x -> x.door(0, 1)));
    }

    private static void never() {
        NEVER.add(new Call("distance", 8, x -> x.distance(0, 1)));
        NEVER.add(new Call("when", 8, x -> x.when(0, 1, 0, 1)));
        NEVER.add(new Call("mean", 9, x -> x.mean(0, 1) ? 1 : -1));
        NEVER.add(new Call("worst", 9, x -> x.worst(0, 1)));
        NEVER.add(new Call("three", 8, x -> x.three(0, 1, 2, 1)));
        NEVER.add(new Call("door", 9, x -> x.door(0, 1)));
        NEVER.add(new Call("wander", 8, x -> x.wander(1, 0, 1)));
    }

    /** Those that a new object refuses, too, though they are fine later on. */
    private static void anew() {
        ANEW.add(new Call("step", 8, x -> x.step(0, 0)));
        ANEW.add(new Call("alikeStep", 8, x -> x.alikeStep(0)));
        ANEW.add(new Call("chance", 8, x -> x.chance(0) ? 1 : -1));
        ANEW.add(new Call("town 1", 5, x -> x.town(1)));
        ANEW.add(new Call("read", 3, x -> x.read(0, 0)));
        ANEW.add(new Call("clock", 3, x -> x.clock(0, 1, true)));
        ANEW.add(new Call("sight", 3, x -> x.sight(0)));
        ANEW.add(new Call("place", 2, x -> x.place(0, 0)));
        ANEW.add(new Call("shut", 2, x -> x.shut(0, true) ? 1 : -1));
        ANEW.add(new Call("mean", 2, x -> x.mean(0, 0) ? 1 : -1));
        ANEW.add(new Call("agreed", 9, x -> x.agreed(1)));
        ANEW.add(new Call("alike", 9, x -> x.alike(1)));
        ANEW.add(new Call("wander", 2, x -> x.wander(0, 0, 0)));
    }

    /** Calls that are answered, but tell no FRACTION and change nothing. */
    private static void asked() {
        ASKED.add(new Call("read", 0, x -> x.read(1, 1)));
        ASKED.add(new Call("many", 0, x -> x.many(2)));
        ASKED.add(new Call("place", 0, x -> x.place(1, 2)));
        ASKED.add(new Call("distance", 0, x -> x.distance(0, 3)));
        ASKED.add(new Call("when", 0, x -> x.when(1, 2, 0, 3)));
        ASKED.add(new Call("judge", 0, x -> x.judge(1, 2, 3)));
        ASKED.add(new Call("worst", 0, x -> x.worst(0, 2)));
        ASKED.add(new Call("same", 0, x -> x.same(0, 2)));
        ASKED.add(new Call("step", 0, x -> x.step(0, 1)));
        ASKED.add(new Call("alikeStep", 0, x -> x.alikeStep(2)));
        ASKED.add(new Call("parted", 0, x -> x.parted(0, 2, 0)));
        ASKED.add(new Call("turned", 0, x -> x.parted(0, 2, 1)));
        ASKED.add(new Call("three", 0, x -> x.three(1, 1, 2, 13)));
        ASKED.add(new Call("wander", 0, x -> x.wander(7, 0, 3)));
    }

    /** TRAYS 0 (four numbers) and 1 (30, none of them a WAY or STEP), 3 (64); 2 is MISSING. */
    private static TwoSeek ready(String town) {
        TwoSeek x = Seek.in(TOWN);
        Seek.fill(x, 3, 0, 0);
        x.clock(3, 1, true);
        Seek.fill(x, 3, 0, 2, 1, 1);
        x.clock(3, 3, true);
        x.tray(3, 2, 64);
        for (int i = 0; i < 18; i++) {
            x.write(3, i, (7 * i + 1) % 15);
        }
        x.sight(3);
        for (int k = 3; k < 12; k++) {
            x.clock(3, 1, false);
        }
        Seek.fill(x, 0, 3, 0, 1, 2, -5);
        x.tray(1, 1, 30);
        for (int i = 0; i < 30; i++) {
            x.write(1, i, 500 + i);
        }
        x.agreed(2);
        x.alike(3);
        x.value(0, 2, 0, 3, 0, 2, 9);
        Seek.town(x, "slow 5;");
        if (!town.equals(TOWN)) {
            Seek.town(x, town);
        }
        x.shut(3, true);
        x.marks(true);
        Seek.feed(x, "place q;place r;cross;");
        x.drawn(0, 1, 5, 3, 2);
        return x;
    }

    /** All that can be asked; what stands on the tape is asked last. */
    private static String all(TwoSeek x) {
        StringBuilder b = new StringBuilder();
        b.append(x.top()).append('/').append(x.bottom()).append(" FAULT ").append(x.fault(0)).append(' ').append(x.fault(1));
        for (int t = 0; t < 4; t++) {
            b.append(" TRAY ").append(t);
            for (int i = 0; i < 20; i++) {
                b.append(' ').append(x.read(t, i));
            }
            b.append(' ').append(x.read(t, 29)).append(' ').append(x.read(t, 30)).append(' ').append(x.read(t, 63));
            b.append(' ').append(x.status());
        }
        b.append(" TOWN ");
        for (int what = 0; what < 3; what++) {
            b.append(x.many(what)).append(' ');
        }
        for (int p = 0; p < 4; p++) {
            for (int what = 0; what < 6; what++) {
                b.append(x.place(p, what)).append(' ');
            }
            b.append(x.distance(p, 0)).append(x.distance(p, 3)).append(' ');
        }
        b.append(" WHEN");
        for (int way = 0; way < 3; way++) {
            for (int other = 0; other < 3; other++) {
                for (int pair = 0; pair < 16; pair++) {
                    b.append(' ').append(x.when(way, other, pair / 4, pair % 4));
                }
            }
        }
        b.append(" ROWS");
        for (int k = 0; k < 6; k++) {
            b.append(' ').append(x.step(0, k)).append(' ').append(x.step(1, k)).append(' ').append(x.alikeStep(k));
        }
        b.append(" CHANCES");
        for (int k = 0; k < 3; k++) {
            b.append(' ').append(x.chance(k)).append(' ').append(x.top()).append('/').append(x.bottom());
        }
        b.append(" MEAN ").append(x.mean(0, 2)).append(x.top()).append('/').append(x.bottom());
        b.append(" TAPE ").append(x.feed(0, 0, 0, 0, 0)).append(' ').append(x.town(16)).append(' ').append(x.many(0));
        return b.toString();
    }

    private static void make(TwoSeek x, Call c) {
        long got = c.call.applyAsLong(x);
        Seek.due(c.name + " STATUS", x.status(), c.status);
        if (c.status != 0) {
            Seek.due(c.name, got, -1);
        }
    }

    private static void eachOf(List<Call> calls, String town) {
        String due = all(ready(town));
        for (Call c : calls) {
            TwoSeek x = ready(town);
            make(x, c);
            String got = all(x);
            Seek.due(c.name + " (" + c.status + ") changes " + differ(due, got), got.equals(due), true);
        }
    }

    private static String differ(String due, String got) {
        int i = 0;
        while (i < due.length() && i < got.length() && due.charAt(i) == got.charAt(i)) {
            i++;
        }
        int from = Math.max(0, i - 60);
        return due.substring(from, Math.min(due.length(), i + 20)) + " to " + got.substring(from, Math.min(got.length(), i + 20));
    }

    private static void eachOfANewObject() {
        String due = all(new TwoSeek());
        for (Call c : ANEW) {
            TwoSeek x = new TwoSeek();
            make(x, c);
            Seek.due("a new object: " + c.name + " changes something", all(x).equals(due), true);
        }
    }

    /** One object, some of them one behind the other: no more than 512 calls in all. */
    private static void allTogether() {
        String due = all(ready(TOWN));
        for (int from = 0; from < REFUSED.size(); from += 40) {
            TwoSeek x = ready(TOWN);
            for (int k = from; k < Math.min(from + 40, REFUSED.size()); k++) {
                make(x, REFUSED.get(k));
            }
            String got = all(x);
            Seek.due("those from " + from + " on change " + differ(due, got), got.equals(due), true);
        }
    }

    private static void townWith10() {
        Seek.says("(but town() with 10 the tape, and what fault() tells)");
        String due = all(ready(TOWN));
        int[] lengths = {1, 8, 22 - 1, 40};
        for (int n : lengths) {
            TwoSeek x = ready(TOWN);
            boolean isFine = n == 8 || n == 40;
            Seek.due(x, "town(" + n + ")", x.town(n), isFine ? n == 8 ? 1 : 2 : -1, isFine ? 0 : 10);
            if (isFine) {
                continue;
            }
            Seek.due("the FAULT", x.fault(0), 2);
            Seek.due("the end", x.fault(1), n == 1 ? 0 : n);
            Seek.due("the tape is empty", x.feed(0x706c6163, 0x6520713b, 0x706c6163, 0x6520723b, 0x63726f73), 20);
            x.feed(0x733b2020, 0x20202020, 0x20202020, 0x20202020, 0x20202020);
            String got = all(x).replaceFirst("FAULT -?\\d+ -?\\d+", "FAULT 4 5");
            Seek.due("town(" + n + ") changes " + differ(due, got), got.equals(due), true);
        }
    }

    private static void toldLatest() {
        Seek.says("The top of the FRACTION told latest.");
        TwoSeek x = Seek.in("place a;place b;lane a to b;");
        Seek.due("way", Seek.clock(x, true, 0), 0);
        Seek.due("way", Seek.clock(x, true, 1), 1);
        Seek.fill(x, 0, 0, 0, 1);
        List<Call> telling = List.of(new Call("mean 1 2", 0, y -> y.mean(0, 1) ? 1 : -1),
                new Call("alike 1 1", 0, y -> y.alike(1)), new Call("agreed 1 2", 0, y -> y.agreed(1)),
                new Call("drawn 3 4", 0, y -> y.drawn(0, 1, 8, 1, 1) ? 1 : -1),
                new Call("door 1 2", 0, y -> y.door(0, 1)), new Call("bestDrawn 3 4", 0, y -> y.bestDrawn(0, 1, 1, 1)),
                new Call("value 11 2", 0, y -> y.value(0, 2, 0, 2, 0, 1, 10) ? 1 : -1),
                new Call("chance 1 2", 0, y -> y.chance(0) ? 1 : -1),
                new Call("alike 3 1", 0, y -> y.alike(5)), new Call("mean 1 2", 0, y -> y.mean(1, 0) ? 1 : -1));
        for (int round = 0; round < 2; round++) {
            for (Call c : telling) {
                make(x, c);
                String[] words = c.name.split(" ");
                Seek.dueFraction(x, c.name, Long.parseLong(words[1]), Long.parseLong(words[2]));
                x.worst(0, 1);
                x.when(0, 1, 0, 1);
                x.mean(0, 0);
                x.drawn(0, 1, 17, 1, 1);
                x.value(0, 2, 0, 2, 0, 1, 0);
                x.chance(2);
                Seek.dueFraction(x, c.name + ", and others behind it", Long.parseLong(words[1]), Long.parseLong(words[2]));
            }
        }
    }

    private static void askingChangesNothing() {
        String due = all(ready(TOWN));
        for (Call c : ASKED) {
            TwoSeek x = ready(TOWN);
            make(x, c);
            String got = all(x);
            Seek.due(c.name + " changes " + differ(due, got), got.equals(due), true);
        }
        // those that tell a FRACTION change that, and door() opens what it has SHUT
        String rest = due.substring(due.indexOf(" FAULT"));
        TwoSeek x = ready(TOWN);
        x.door(0, 2);
        x.mean(0, 2);
        x.drawn(0, 2, 3, 4, 5);
        x.bestDrawn(0, 2, 4, 2);
        x.chance(1);
        String got = all(x);
        got = got.substring(got.indexOf(" FAULT"));
        Seek.due("door() and others change " + differ(rest, got), got.equals(rest), true);
    }
}
