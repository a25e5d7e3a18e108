/**
 * A town in which two look for each other. What each call does is told, as numbered promises,
 * by ../shared/DOC.md; words in capitals are those of that document.
 *
 * All rows are made once, with the object: no call makes anything new.
 */
public final class TwoSeek {
    public static final int NONE = -1;

    private static final int MOST_PLACES = 8;
    private static final int MOST_LANES = 12;
    private static final int LANES_AT_A_PLACE = 4;
    private static final int PAIRS = MOST_PLACES * MOST_PLACES;
    private static final int STEPS = 5;
    private static final int STEP_PAIRS = STEPS * STEPS;
    private static final int MOST_TICKS = 200;
    private static final int MOST_WANDERED = 1000;
    private static final int MOST_PICKED = 3;
    private static final int MOST_DIVISIONS = 1000;
    private static final int GREATEST = 0x7fffffff;

    // STATUS
    private static final int FINE = 0;
    private static final int NO_TRAY = 1;
    private static final int NO_SUCH = 2;
    private static final int MISSING = 3;
    private static final int TOO_FEW = 4;
    private static final int CANT_BE = 5;
    private static final int BELOW_ZERO = 6;
    private static final int ONE_TOO_MANY = 7;
    private static final int THERE_IS_NONE = 8;
    private static final int IMPOSSIBLE = 9;
    private static final int FAULTY = 10;
    private static final int UNLIKE_SORTS = 11;

    private int status;
    // the FRACTION told latest
    private long above;
    private long below;
    private final Trays trays;
    private final Reader reader;
    private Town town;
    private Town spare;
    private final Ways ways;
    private final Walk walk;
    private final Likeness likeness;
    private final Rows agreedRows;
    private final Rows alikeRows;
    private final Lots lots;
    private final Game game;

    public TwoSeek() {
        status = FINE;
        above = 0;
        below = 1;
        trays = new Trays();
        reader = new Reader();
        town = new Town();
        spare = new Town();
        ways = new Ways();
        walk = new Walk(ways);
        likeness = new Likeness();
        Moves moves = new Moves();
        agreedRows = new Rows(moves, false);
        alikeRows = new Rows(moves, true);
        lots = new Lots(ways);
        game = new Game();
    }

    public int status() {
        return status;
    }

    public long top() {
        return above;
    }

    public long bottom() {
        return below;
    }

    // ---- TRAYS

    public boolean tray(int tray, int sort, int many) {
        if (!trays.isTray(tray) || !trays.isSort(sort)) {
            return refuse(NO_TRAY);
        }
        if (many > Trays.MOST_NUMBERS) {
            return refuse(CANT_BE);
        }
        if (many < 0) {
            return refuse(BELOW_ZERO);
        }
        trays.lay(tray, sort, many);
        return done();
    }

    public boolean write(int tray, int place, long v) {
        int why = trays.whyNoNumber(tray, place);
        if (why != FINE) {
            return refuse(why);
        }
        trays.put(tray, place, v);
        return done();
    }

    public long read(int tray, int place) {
        int why = trays.whyNoNumber(tray, place);
        if (why != FINE) {
            return none(why);
        }
        status = FINE;
        return trays.number(tray, place);
    }

    public boolean pour(int tray, int i, int to, int j, int many) {
        if (!trays.isTray(tray) || !trays.isTray(to)) {
            return refuse(NO_TRAY);
        }
        if (!trays.isThere(tray) || !trays.isThere(to)) {
            return refuse(MISSING);
        }
        if (trays.sortOf(tray) != trays.sortOf(to)) {
            return refuse(UNLIKE_SORTS);
        }
        if (many < 0) {
            return refuse(BELOW_ZERO);
        }
        if (!trays.hasRange(tray, i, many) || !trays.hasRange(to, j, many)) {
            return refuse(TOO_FEW);
        }
        trays.copy(tray, i, to, j, many);
        return done();
    }

    // ---- the TOWN

    public int feed(int a, int b, int c, int d, int e) {
        if (!reader.hasRoom(5)) {
            return NONE;
        }
        reader.append(a);
        reader.append(b);
        reader.append(c);
        reader.append(d);
        reader.append(e);
        return reader.taped;
    }

    public int town(int n) {
        if (n < 0 || n > reader.taped) {
            return none(CANT_BE);
        }
        if (!reader.understand(n, spare)) {
            return none(FAULTY);
        }
        Town taken = spare;
        spare = town;
        town = taken;
        return answer(town.places);
    }

    public int fault(int what) {
        if (what == 0) {
            return reader.faultKind;
        }
        return what == 1 ? reader.faultPlace : NONE;
    }

    public int many(int what) {
        if (what == 0) {
            return answer(town.places);
        }
        if (what == 1) {
            return answer(town.lanes);
        }
        return what == 2 ? answer(ways.count) : none(CANT_BE);
    }

    public int place(int place, int what) {
        if (!town.isPlace(place)) {
            return none(NO_SUCH);
        }
        if (what < 0 || what > 1 + LANES_AT_A_PLACE) {
            return none(CANT_BE);
        }
        if (what == 0) {
            return answer(town.sightOf(place));
        }
        if (what == 1) {
            return answer(town.lanesAt(place));
        }
        int there = town.leadsTo(place, what - 2);
        return there == NONE ? none(THERE_IS_NONE) : answer(there);
    }

    public boolean shut(int lane, boolean is) {
        if (!town.isLane(lane)) {
            return refuse(NO_SUCH);
        }
        town.close(lane, is);
        return done();
    }

    public boolean marks(boolean are) {
        town.marked = are;
        return done();
    }

    public int distance(int a, int b) {
        if (!arePlaces(a, b)) {
            return none(NO_SUCH);
        }
        int lanes = town.lanesBetween(a, b);
        return lanes == Town.OUT_OF_REACH ? none(THERE_IS_NONE) : answer(lanes);
    }

    // ---- WAYS

    public int clock(int tray, int many, boolean again) {
        if (!trays.isTray(tray)) {
            return none(NO_TRAY);
        }
        if (!trays.isThere(tray)) {
            return none(MISSING);
        }
        if (many < 1 || many > Ways.MOST_STEPS) {
            return none(CANT_BE);
        }
        if (trays.lengthOf(tray) < many) {
            return none(TOO_FEW);
        }
        if (!trays.allWithin(tray, many, STEPS - 1)) {
            return none(CANT_BE);
        }
        if (ways.isFull()) {
            return none(ONE_TOO_MANY);
        }
        return answer(ways.add(trays, tray, many, again));
    }

    public int sight(int tray) {
        if (!trays.isTray(tray)) {
            return none(NO_TRAY);
        }
        if (!trays.isThere(tray)) {
            return none(MISSING);
        }
        if (trays.lengthOf(tray) < Ways.SEEN_IN_MOODS) {
            return none(TOO_FEW);
        }
        if (!trays.allWithin(tray, Ways.SEEN_IN_MOODS, STEPS * Ways.MOODS - 1)) {
            return none(CANT_BE);
        }
        if (ways.isFull()) {
            return none(ONE_TOO_MANY);
        }
        return answer(ways.add(trays, tray, Ways.BY_SIGHT, false));
    }

    public int when(int one, int other, int a, int b) {
        if (!areWays(one, other) || !arePlaces(a, b)) {
            return none(NO_SUCH);
        }
        int ticks = walk.ticksToMeet(town, one, other, a, b);
        return ticks == NONE ? none(THERE_IS_NONE) : answer(ticks);
    }

    public int judge(int one, int other, int tray) {
        if (!trays.isTray(tray)) {
            return none(NO_TRAY);
        }
        if (!areWays(one, other)) {
            return none(NO_SUCH);
        }
        if (!trays.isThere(tray)) {
            return none(MISSING);
        }
        if (trays.lengthOf(tray) < town.places * town.places) {
            return none(TOO_FEW);
        }
        for (int a = 0; a < town.places; a++) {
            for (int b = 0; b < town.places; b++) {
                long told = trays.number(tray, a * town.places + b);
                if (told != walk.ticksToMeet(town, one, other, a, b)) {
                    return answer(MOST_PLACES * a + b);
                }
            }
        }
        return answer(NONE);
    }

    public boolean mean(int one, int other) {
        if (!areWays(one, other)) {
            return refuse(NO_SUCH);
        }
        int all = town.allLikelihoods();
        if (all == 0 || !walk.meetAlways(town, one, other)) {
            return refuse(IMPOSSIBLE);
        }
        tellFraction(walk.allTimes, all);
        return done();
    }

    public int worst(int one, int other) {
        if (!areWays(one, other)) {
            return none(NO_SUCH);
        }
        if (town.allLikelihoods() == 0 || !walk.meetAlways(town, one, other)) {
            return none(IMPOSSIBLE);
        }
        return answer(walk.longestTime);
    }

    // ---- SAME, AGREED, ALIKE, PARTED

    public int same(int a, int b) {
        if (!arePlaces(a, b)) {
            return none(NO_SUCH);
        }
        return answer(likeness.nobodyTellsApart(town, a, b) ? 1 : 0);
    }

    public int agreed(int many) {
        return bestRows(agreedRows, many, Rows.MOST_AGREED);
    }

    public int step(int who, int k) {
        if (who < 0 || who > 1) {
            return none(CANT_BE);
        }
        return stepOfRow(agreedRows, who, k);
    }

    public int alike(int many) {
        return bestRows(alikeRows, many, Rows.MOST_ALIKE);
    }

    public int alikeStep(int k) {
        return stepOfRow(alikeRows, 0, k);
    }

    public int parted(int a, int b, int what) {
        if (!arePlaces(a, b) || a == b) {
            return none(NO_SUCH);
        }
        if (what == 0) {
            return answer(likeness.areKeptApart(town, a, b) ? 1 : 0);
        }
        if (what == 1) {
            return answer(likeness.turnIntoOneAnother(town, a, b) ? 1 : 0);
        }
        return none(CANT_BE);
    }

    // ---- DRAWN, THREE, SHY, DOOR, WANDER

    public boolean drawn(int one, int other, int n, int ticks, int times) {
        if (!areWays(one, other)) {
            return refuse(NO_SUCH);
        }
        if (n < 0 || n > Lots.CHANCES || !Lots.canBe(ticks, times)) {
            return refuse(CANT_BE);
        }
        if (town.allLikelihoods() == 0) {
            return refuse(IMPOSSIBLE);
        }
        lots.walkAll(town, one, other, ticks);
        tellFraction(lots.metBy(town, n, times), lots.outOf(town, times));
        return done();
    }

    public int bestDrawn(int one, int other, int ticks, int times) {
        if (!areWays(one, other)) {
            return none(NO_SUCH);
        }
        if (!Lots.canBe(ticks, times)) {
            return none(CANT_BE);
        }
        if (town.allLikelihoods() == 0) {
            return none(IMPOSSIBLE);
        }
        lots.walkAll(town, one, other, ticks);
        int best = 0;
        long most = NONE;
        for (int n = 0; n <= Lots.CHANCES; n++) {
            long met = lots.metBy(town, n, times);
            if (met > most) {
                most = met;
                best = n;
            }
        }
        tellFraction(most, lots.outOf(town, times));
        return answer(best);
    }

    public int three(int one, int two, int last, int places) {
        int a = places / 100;
        int b = places / 10 % 10;
        int c = places % 10;
        if (!areWays(one, two) || !ways.isWay(last) || places < 0) {
            return none(NO_SUCH);
        }
        if (!arePlaces(a, b) || !town.isPlace(c)) {
            return none(NO_SUCH);
        }
        walk.beginThree(one, two, last, a, b, c);
        int ticks = walk.ticksOfThree(town);
        return ticks == NONE ? none(THERE_IS_NONE) : answer(ticks);
    }

    public boolean value(int ways, int many, int others, int otherMany, int a, int b, int cap) {
        if (!trays.isTray(ways) || !trays.isTray(others)) {
            return refuse(NO_TRAY);
        }
        if (!arePlaces(a, b)) {
            return refuse(NO_SUCH);
        }
        if (!trays.isThere(ways) || !trays.isThere(others)) {
            return refuse(MISSING);
        }
        if (!isPick(many) || !isPick(otherMany) || cap < 1 || cap > Game.HIGHEST_CAP) {
            return refuse(CANT_BE);
        }
        if (trays.lengthOf(ways) < many || trays.lengthOf(others) < otherMany) {
            return refuse(TOO_FEW);
        }
        if (!areWaysIn(ways, many) || !areWaysIn(others, otherMany)) {
            return refuse(NO_SUCH);
        }
        game.begin(many, otherMany);
        for (int i = 0; i < many; i++) {
            for (int j = 0; j < otherMany; j++) {
                int one = (int) trays.number(ways, i);
                int other = (int) trays.number(others, j);
                int ticks = walk.ticksToMeet(town, one, other, a, b);
                game.tellWorth(i, j, ticks == NONE ? cap : Math.min(ticks, cap));
            }
        }
        game.solve();
        tellFraction(game.worthOfBest(), game.bottomOfBest());
        return done();
    }

    public boolean chance(int k) {
        if (k < 0 || k >= game.picks) {
            return refuse(THERE_IS_NONE);
        }
        tellFraction(game.chanceOfBest(k), game.bottomOfBest());
        return done();
    }

    public int door(int one, int other) {
        if (!areWays(one, other)) {
            return none(NO_SUCH);
        }
        int all = town.allLikelihoods();
        if (all == 0) {
            return none(IMPOSSIBLE);
        }
        int least = walk.meetAlways(town, one, other) ? walk.allTimes : GREATEST;
        int best = NONE;
        for (int lane = 0; lane < town.lanes; lane++) {
            if (town.isShut(lane)) {
                continue;
            }
            town.close(lane, true);
            if (walk.meetAlways(town, one, other) && walk.allTimes < least) {
                least = walk.allTimes;
                best = lane;
            }
            town.close(lane, false);
        }
        if (least == GREATEST) {
            return none(IMPOSSIBLE);
        }
        tellFraction(least, all);
        return answer(best);
    }

    public int wander(int seed, int a, int b) {
        if (!arePlaces(a, b)) {
            return none(NO_SUCH);
        }
        if (seed < 0) {
            return none(CANT_BE);
        }
        int ticks = walk.ticksWandered(town, seed, a, b);
        return ticks == NONE ? none(THERE_IS_NONE) : answer(ticks);
    }

    // ---- what several calls share

    private boolean refuse(int why) {
        status = why;
        return false;
    }

    private int none(int why) {
        status = why;
        return NONE;
    }

    private boolean done() {
        status = FINE;
        return true;
    }

    private int answer(int found) {
        status = FINE;
        return found;
    }

    private void tellFraction(long top, long bottom) {
        long divisor = top;
        long rest = bottom;
        for (int turn = 0; turn < MOST_DIVISIONS && rest != 0; turn++) {
            long next = divisor % rest;
            divisor = rest;
            rest = next;
        }
        if (divisor > 0) {
            above = top / divisor;
            below = bottom / divisor;
        }
    }

    private boolean areWays(int one, int other) {
        return ways.isWay(one) && ways.isWay(other);
    }

    private boolean arePlaces(int a, int b) {
        return town.isPlace(a) && town.isPlace(b);
    }

    private boolean areWaysIn(int tray, int many) {
        return trays.allWithin(tray, many, ways.count - 1);
    }

    private static boolean isPick(int many) {
        return many >= 1 && many <= MOST_PICKED;
    }

    private int bestRows(Rows rows, int many, int most) {
        if (many < 1 || many > most) {
            return none(CANT_BE);
        }
        int all = town.allLikelihoods();
        if (all == 0) {
            return none(IMPOSSIBLE);
        }
        rows.search(town, many);
        tellFraction(rows.late, all);
        return answer(rows.missed);
    }

    private int stepOfRow(Rows rows, int who, int k) {
        if (k < 0 || k >= rows.length) {
            return none(THERE_IS_NONE);
        }
        return answer(rows.bestStep(who, k));
    }

    // ---- classes

    /** Rows of numbers; a length below 0 is that of a TRAY that is MISSING. */
    private static final class Trays {
        private static final int TRAYS = 4;
        private static final int SORTS = 4;
        private static final int MOST_NUMBERS = 64;

        private final long[][] numbers = new long[TRAYS][MOST_NUMBERS];
        private final int[] sorts = new int[TRAYS];
        private final int[] lengths = new int[TRAYS];

        Trays() {
            for (int tray = 0; tray < TRAYS; tray++) {
                lengths[tray] = NONE;
            }
        }

        boolean isTray(int tray) {
            return tray >= 0 && tray < TRAYS;
        }

        boolean isSort(int sort) {
            return sort >= 0 && sort < SORTS;
        }

        boolean isThere(int tray) {
            return isTray(tray) && lengths[tray] >= 0;
        }

        int sortOf(int tray) {
            return isTray(tray) ? sorts[tray] : NONE;
        }

        int lengthOf(int tray) {
            return isThere(tray) ? lengths[tray] : 0;
        }

        int whyNoNumber(int tray, int place) {
            if (!isTray(tray)) {
                return NO_TRAY;
            }
            if (!isThere(tray)) {
                return MISSING;
            }
            return hasNumber(tray, place) ? FINE : TOO_FEW;
        }

        boolean hasNumber(int tray, int place) {
            return place >= 0 && place < lengthOf(tray) && place < MOST_NUMBERS;
        }

        boolean hasRange(int tray, int from, int many) {
            return from >= 0 && many >= 0 && (long) from + many <= lengthOf(tray);
        }

        void lay(int tray, int sort, int many) {
            if (!isTray(tray)) {
                return;
            }
            sorts[tray] = sort;
            lengths[tray] = many;
            for (int place = 0; place < MOST_NUMBERS; place++) {
                numbers[tray][place] = 0;
            }
        }

        long number(int tray, int place) {
            return hasNumber(tray, place) ? numbers[tray][place] : 0;
        }

        void put(int tray, int place, long v) {
            if (hasNumber(tray, place)) {
                numbers[tray][place] = cut(v, sorts[tray]);
            }
        }

        private static long cut(long v, int sort) {
            if (sort == 0) {
                return (byte) v;
            }
            if (sort == 1) {
                return (short) v;
            }
            return sort == 2 ? (int) v : v;
        }

        /** Backwards where it goes up in a row, lest a number be overwritten ahead of its turn. */
        void copy(int tray, int i, int to, int j, int many) {
            boolean backwards = i < j;
            for (int k = 0; k < many; k++) {
                int step = backwards ? many - 1 - k : k;
                put(to, j + step, number(tray, i + step));
            }
        }

        boolean allWithin(int tray, int many, int most) {
            for (int place = 0; place < many; place++) {
                long v = number(tray, place);
                if (v < 0 || v > most) {
                    return false;
                }
            }
            return true;
        }
    }

    /** The tape, and what makes a TOWN of it. */
    private static final class Reader {
        private static final int MOST_TEXT = 500;
        private static final int LONGEST_NAME = 8;
        private static final int MOST_SLOW = 4;
        private static final int MOST_HEARS = 3;

        // kinds of TOKENS
        private static final int END = 0;
        private static final int WORD = 1;
        private static final int NUMBER = 2;
        private static final int SIGN = 3;
        private static final int NO_TOKEN = 4;

        // WORDS as numbers, their letters' bytes one behind the other
        private static final long PLACE = 0x706c616365L;
        private static final long LANE = 0x6c616e65L;
        private static final long TO = 0x746fL;
        private static final long CROSS = 0x63726f7373L;
        private static final long SLOW = 0x736c6f77L;
        private static final long HEARS = 0x6865617273L;
        private static final long SEES = 0x73656573L;
        private static final long FIRST = 0x6669727374L;
        private static final long SECOND = 0x7365636f6e64L;
        private static final long TOO_LONG = 0;

        // FAULTS
        private static final int BEGINS_NONE = 1;
        private static final int CANT_STAND = 2;
        private static final int BAD_NAME = 3;
        private static final int BAD_NUMBER = 4;
        private static final int TOLD_ALREADY = 5;
        private static final int OVER = 6;

        private final int[] tape = new int[MOST_TEXT];
        private int taped;
        private int faultKind = NONE;
        private int faultPlace = NONE;

        private Town told;
        private boolean slowTold;
        private boolean hearsTold;
        private int length;
        private int at;
        private int kind;
        private int start;
        private long token;

        boolean hasRoom(int ints) {
            return taped + 4 * ints <= MOST_TEXT;
        }

        void append(int bytes) {
            for (int shift = 24; shift >= 0; shift -= 8) {
                if (taped >= 0 && taped < MOST_TEXT) {
                    tape[taped] = bytes >> shift & 255;
                    taped++;
                }
            }
        }

        /** Whether the first bytes of the tape, which is empty then, tell a TOWN. */
        boolean understand(int bytes, Town into) {
            told = into;
            told.clear();
            slowTold = false;
            hearsTold = false;
            length = Math.min(bytes, MOST_TEXT);
            at = 0;
            taped = 0;
            faultKind = 0;
            faultPlace = NONE;
            next();
            for (int part = 0; part < MOST_TEXT && kind != END; part++) {
                if (!takePart()) {
                    return false;
                }
            }
            told.settle();
            return true;
        }

        /** Where no TOKEN begins, that is the FAULT, for it is the least. */
        private boolean wrong(int fault) {
            faultKind = kind == NO_TOKEN ? BEGINS_NONE : fault;
            faultPlace = start;
            return false;
        }

        private boolean takePart() {
            boolean taken;
            if (isWord(PLACE)) {
                taken = takePlace();
            } else if (isWord(LANE)) {
                taken = takeLane();
            } else if (isWord(CROSS)) {
                taken = takeCross();
            } else if (isWord(SLOW)) {
                taken = takeSlow();
            } else if (isWord(HEARS)) {
                taken = takeHears();
            } else {
                taken = wrong(CANT_STAND);
            }
            return taken && takeSign();
        }

        private boolean takePlace() {
            next();
            if (!isName()) {
                return wrong(CANT_STAND);
            }
            if (told.find(token) != NONE) {
                return wrong(BAD_NAME);
            }
            if (!told.addPlace(token)) {
                return wrong(OVER);
            }
            next();
            int features = 0;
            for (int turn = 0; turn <= Town.FEATURES; turn++) {
                int feature = featureTold();
                if (feature == NONE) {
                    break;
                }
                if ((features >> feature & 1) != 0) {
                    return wrong(TOLD_ALREADY);
                }
                features |= 1 << feature;
                next();
                if (!takeNumber(0, feature == Town.SIGHT ? Ways.SIGHTS - 1 : Town.LIKELIEST)) {
                    return false;
                }
                told.tellFeature(feature, (int) token);
                next();
            }
            return true;
        }

        private int featureTold() {
            if (isWord(SEES)) {
                return Town.SIGHT;
            }
            if (isWord(FIRST)) {
                return Town.FIRST_BEGINS;
            }
            return isWord(SECOND) ? Town.SECOND_BEGINS : NONE;
        }

        private boolean takeLane() {
            if (told.lanes >= MOST_LANES) {
                return wrong(OVER);
            }
            next();
            if (!isName()) {
                return wrong(CANT_STAND);
            }
            int from = told.find(token);
            if (from == NONE) {
                return wrong(BAD_NAME);
            }
            if (told.isCrowded(from)) {
                return wrong(OVER);
            }
            next();
            if (!isWord(TO)) {
                return wrong(CANT_STAND);
            }
            next();
            return takeLaneTo(from);
        }

        private boolean takeLaneTo(int from) {
            if (!isName()) {
                return wrong(CANT_STAND);
            }
            int to = told.find(token);
            if (to == NONE) {
                return wrong(BAD_NAME);
            }
            if (to == from) {
                return wrong(TOLD_ALREADY);
            }
            if (told.isCrowded(to) || told.areJoined(from, to)) {
                return wrong(OVER);
            }
            told.addLane(from, to);
            next();
            return true;
        }

        private boolean takeCross() {
            if (told.cross) {
                return wrong(TOLD_ALREADY);
            }
            told.cross = true;
            next();
            return true;
        }

        private boolean takeSlow() {
            if (!takeOnce(slowTold, 1, MOST_SLOW)) {
                return false;
            }
            slowTold = true;
            told.slow = (int) token;
            next();
            return true;
        }

        private boolean takeHears() {
            if (!takeOnce(hearsTold, 0, MOST_HEARS)) {
                return false;
            }
            hearsTold = true;
            told.hears = (int) token;
            next();
            return true;
        }

        /** A WORD that may be told once, and its NUMBER, which is the TOKEN then. */
        private boolean takeOnce(boolean already, int least, int most) {
            if (already) {
                return wrong(TOLD_ALREADY);
            }
            next();
            return takeNumber(least, most);
        }

        private boolean takeNumber(int least, int most) {
            if (kind != NUMBER) {
                return wrong(CANT_STAND);
            }
            return token >= least && token <= most || wrong(BAD_NUMBER);
        }

        private boolean takeSign() {
            if (kind != SIGN) {
                return wrong(CANT_STAND);
            }
            next();
            return true;
        }

        private boolean isWord(long word) {
            return kind == WORD && token == word;
        }

        private boolean isName() {
            if (kind != WORD || token == TOO_LONG) {
                return false;
            }
            boolean ofPart = token == PLACE || token == LANE || token == TO
                    || token == CROSS || token == SLOW || token == HEARS;
            return !ofPart && featureTold() == NONE;
        }

        /** The TOKEN that begins at or behind the reader's place. */
        private void next() {
            for (int turn = 0; turn < MOST_TEXT && isBlank(byteAt(at)); turn++) {
                at++;
            }
            start = at;
            token = 0;
            if (at >= length) {
                kind = END;
            } else if (isLetter(byteAt(at))) {
                nextWord();
            } else if (isDigit(byteAt(at))) {
                nextNumber();
            } else {
                kind = byteAt(at) == ';' ? SIGN : NO_TOKEN;
                at++;
            }
        }

        private void nextWord() {
            kind = WORD;
            for (int turn = 0; turn < MOST_TEXT && isLetter(byteAt(at)); turn++) {
                token = token << 8 | byteAt(at);
                at++;
            }
            if (at - start > LONGEST_NAME) {
                token = TOO_LONG;
            }
        }

        private void nextNumber() {
            for (int turn = 0; turn < MOST_TEXT && isDigit(byteAt(at)); turn++) {
                token = token * 10 + byteAt(at) - '0';
                at++;
            }
            kind = at - start > 2 ? NO_TOKEN : NUMBER;
        }

        private static boolean isBlank(int sign) {
            return sign == ' ' || sign == '\n';
        }

        private static boolean isLetter(int sign) {
            return sign >= 'a' && sign <= 'z';
        }

        private static boolean isDigit(int sign) {
            return sign >= '0' && sign <= '9';
        }

        private int byteAt(int place) {
            return place >= 0 && place < length && place < MOST_TEXT ? tape[place] : NONE;
        }
    }

    /** PLACES and LANES, as they are told and shut, and how far it is between them. */
    private static final class Town {
        private static final int FEATURES = 3;
        private static final int SIGHT = 0;
        private static final int FIRST_BEGINS = 1;
        private static final int SECOND_BEGINS = 2;
        private static final int LIKELIEST = 9;
        private static final int OUT_OF_REACH = 100;

        private int places;
        private int lanes;
        private boolean cross;
        private int slow = 1;
        private int hears;
        private boolean marked;
        private final long[] names = new long[MOST_PLACES];
        private final int[] sights = new int[MOST_PLACES];
        private final int[] firsts = new int[MOST_PLACES];
        private final int[] seconds = new int[MOST_PLACES];
        private final int[] laneCounts = new int[MOST_PLACES];
        private final int[] laneNumbers = new int[MOST_PLACES * LANES_AT_A_PLACE];
        private final int[] leads = new int[MOST_PLACES * LANES_AT_A_PLACE];
        private final boolean[] shutLanes = new boolean[MOST_LANES];
        // by PLACES and STEPS, as LANES are SHUT now
        private final int[] stepsLead = new int[MOST_PLACES * STEPS];
        private final int[] distances = new int[PAIRS];

        void clear() {
            places = 0;
            lanes = 0;
            cross = false;
            slow = 1;
            hears = 0;
            marked = false;
        }

        boolean addPlace(long name) {
            if (places < 0 || places >= MOST_PLACES) {
                return false;
            }
            names[places] = name;
            sights[places] = 0;
            firsts[places] = 1;
            seconds[places] = 1;
            laneCounts[places] = 0;
            places++;
            return true;
        }

        /** Of the PLACE that was added latest. */
        void tellFeature(int feature, int number) {
            int place = places - 1;
            if (!isPlace(place)) {
                return;
            }
            if (feature == SIGHT) {
                sights[place] = number;
            } else if (feature == FIRST_BEGINS) {
                firsts[place] = number;
            } else {
                seconds[place] = number;
            }
        }

        int find(long name) {
            for (int place = 0; place < places && place < MOST_PLACES; place++) {
                if (names[place] == name) {
                    return place;
                }
            }
            return NONE;
        }

        void addLane(int from, int to) {
            if (lanes < 0 || lanes >= MOST_LANES || isCrowded(from) || isCrowded(to)) {
                return;
            }
            addEnd(from, to);
            addEnd(to, from);
            shutLanes[lanes] = false;
            lanes++;
        }

        private void addEnd(int at, int to) {
            if (isPlace(at) && laneCounts[at] < LANES_AT_A_PLACE) {
                int end = at * LANES_AT_A_PLACE + laneCounts[at];
                leads[end] = to;
                laneNumbers[end] = lanes;
                laneCounts[at]++;
            }
        }

        boolean isPlace(int place) {
            return place >= 0 && place < places && place < MOST_PLACES;
        }

        boolean isLane(int lane) {
            return lane >= 0 && lane < lanes && lane < MOST_LANES;
        }

        boolean isCrowded(int place) {
            return !isPlace(place) || laneCounts[place] >= LANES_AT_A_PLACE;
        }

        boolean areJoined(int a, int b) {
            for (int k = 0; k < LANES_AT_A_PLACE; k++) {
                if (leadsTo(a, k) == b) {
                    return true;
                }
            }
            return false;
        }

        int sightOf(int place) {
            return isPlace(place) ? sights[place] : 0;
        }

        int likelihood(int a, int b) {
            return isPlace(a) && isPlace(b) ? firsts[a] * seconds[b] : 0;
        }

        int allLikelihoods() {
            int all = 0;
            for (int a = 0; a < places; a++) {
                for (int b = 0; b < places; b++) {
                    all += likelihood(a, b);
                }
            }
            return all;
        }

        int lanesAt(int place) {
            return isPlace(place) ? laneCounts[place] : 0;
        }

        int mostLanesAtAPlace() {
            int most = 0;
            for (int place = 0; place < places; place++) {
                most = Math.max(most, lanesAt(place));
            }
            return most;
        }

        /** Where a LANE of a PLACE leads, SHUT or not; NONE if there is none such. */
        int leadsTo(int place, int k) {
            boolean isThere = isPlace(place) && k >= 0 && k < laneCounts[place] && k < LANES_AT_A_PLACE;
            return isThere ? leads[place * LANES_AT_A_PLACE + k] : NONE;
        }

        /** Likewise, but NONE if it is SHUT. */
        int opensTo(int place, int k) {
            int there = after(place, k + 1);
            return there == place ? NONE : there;
        }

        boolean isShut(int lane) {
            return isLane(lane) && shutLanes[lane];
        }

        void close(int lane, boolean is) {
            if (isLane(lane)) {
                shutLanes[lane] = is;
                settle();
            }
        }

        /** Who does a STEP in a PLACE comes to this one. */
        int after(int place, int step) {
            return isPlace(place) && step >= 0 && step < STEPS ? stepsLead[place * STEPS + step] : place;
        }

        /** Finds anew where STEPS lead and how far it is, whenever LANES change. */
        void settle() {
            for (int place = 0; place < places && place < MOST_PLACES; place++) {
                stepsLead[place * STEPS] = place;
                for (int k = 0; k < LANES_AT_A_PLACE; k++) {
                    int there = leadsTo(place, k);
                    boolean isOpen = there != NONE && !isShut(laneNumbers[place * LANES_AT_A_PLACE + k]);
                    stepsLead[place * STEPS + k + 1] = isOpen ? there : place;
                }
            }
            measure();
        }

        private void measure() {
            for (int pair = 0; pair < PAIRS; pair++) {
                distances[pair] = pair / MOST_PLACES == pair % MOST_PLACES ? 0 : OUT_OF_REACH;
            }
            for (int a = 0; a < places; a++) {
                for (int k = 0; k < LANES_AT_A_PLACE; k++) {
                    shorten(a, opensTo(a, k), 1);
                }
            }
            for (int over = 0; over < places; over++) {
                for (int a = 0; a < places; a++) {
                    int there = lanesBetween(a, over);
                    for (int b = 0; b < places && there < OUT_OF_REACH; b++) {
                        shorten(a, b, there + lanesBetween(over, b));
                    }
                }
            }
        }

        private void shorten(int a, int b, int many) {
            if (isPlace(a) && isPlace(b) && many < distances[a * MOST_PLACES + b]) {
                distances[a * MOST_PLACES + b] = many;
            }
        }

        int lanesBetween(int a, int b) {
            return isPlace(a) && isPlace(b) ? distances[a * MOST_PLACES + b] : OUT_OF_REACH;
        }

        boolean areHeard(int a, int b) {
            return hears > 0 && lanesBetween(a, b) <= hears;
        }

        /** Where one comes from a PLACE by its first LANE that leads nearer to a goal. */
        int nearer(int place, int goal) {
            int far = lanesBetween(place, goal);
            for (int step = 1; step < STEPS; step++) {
                int there = after(place, step);
                if (lanesBetween(there, goal) < far) {
                    return there;
                }
            }
            return place;
        }

        boolean secondStands(int tick) {
            return slow > 1 && tick % slow != 0;
        }

        /** Whether they MEET who were in two PLACES and are in these now. */
        boolean haveMet(int wasOne, int wasOther, int isOne, int isOther) {
            return isOne == isOther || cross && isOne == wasOther && isOther == wasOne;
        }
    }

    /** The WAYS; a length of 0 is that of one by SIGHT. */
    private static final class Ways {
        private static final int MOST_WAYS = 12;
        private static final int MOST_STEPS = 24;
        private static final int SIGHTS = 6;
        private static final int MOODS = 3;
        private static final int SEEN_IN_MOODS = MOODS * SIGHTS;
        private static final int BY_SIGHT = 0;

        private int count;
        private final int[] lengths = new int[MOST_WAYS];
        private final boolean[] again = new boolean[MOST_WAYS];
        private final int[] numbers = new int[MOST_WAYS * MOST_STEPS];

        boolean isWay(int way) {
            return way >= 0 && way < count && way < MOST_WAYS;
        }

        boolean isFull() {
            return count >= MOST_WAYS;
        }

        int add(Trays trays, int tray, int length, boolean beginsAgain) {
            if (count < 0 || count >= MOST_WAYS) {
                return NONE;
            }
            lengths[count] = length;
            again[count] = beginsAgain;
            for (int i = 0; i < MOST_STEPS; i++) {
                numbers[count * MOST_STEPS + i] = (int) trays.number(tray, i);
            }
            count++;
            return count - 1;
        }

        private int numberAt(int way, int i) {
            int at = way * MOST_STEPS + i;
            return at >= 0 && at < numbers.length ? numbers[at] : 0;
        }

        /** The next STEP of a WAY that has gone so far (STEPS by the CLOCK, else the MOOD). */
        int nextStep(int way, int gone, int sight) {
            if (!isWay(way)) {
                return 0;
            }
            if (lengths[way] == BY_SIGHT) {
                return numberAt(way, SIGHTS * gone + sight) % STEPS;
            }
            return gone < lengths[way] ? numberAt(way, gone) : 0;
        }

        /** How far it has gone behind that STEP. */
        int goneThen(int way, int gone, int sight) {
            if (!isWay(way)) {
                return 0;
            }
            if (lengths[way] == BY_SIGHT) {
                return numberAt(way, SIGHTS * gone + sight) / STEPS;
            }
            if (gone + 1 < lengths[way]) {
                return gone + 1;
            }
            return again[way] ? 0 : lengths[way];
        }
    }

    /** One who walks by a WAY. */
    private static final class Walker {
        private final Ways ways;
        private int way;
        private int gone;
        private int at;

        Walker(Ways ways) {
            this.ways = ways;
        }

        void begin(int byWay, int place) {
            way = byWay;
            gone = 0;
            at = place;
        }

        /** Does the WAY's next STEP, and tells it. */
        int stepOn(Town town) {
            int sight = town.sightOf(at);
            int step = ways.nextStep(way, gone, sight);
            gone = ways.goneThen(way, gone, sight);
            at = town.after(at, step);
            return step;
        }
    }

    /** Two who walk until they MEET, and three. */
    private static final class Walk {
        private final Walker first;
        private final Walker second;
        private final Walker third;
        // by PLACES: the STEP by which FIRST left it latest, 0 if it did not
        private final int[] leftBy = new int[MOST_PLACES];
        // of all likely beginnings: WHEN, each times its likelihood, and the greatest
        private int allTimes;
        private int longestTime;

        Walk(Ways ways) {
            first = new Walker(ways);
            second = new Walker(ways);
            third = new Walker(ways);
        }

        int ticksToMeet(Town town, int one, int other, int a, int b) {
            if (a == b) {
                return 0;
            }
            first.begin(one, a);
            second.begin(other, b);
            for (int place = 0; place < MOST_PLACES; place++) {
                leftBy[place] = 0;
            }
            for (int tick = 0; tick < MOST_TICKS; tick++) {
                int wasOne = first.at;
                int wasOther = second.at;
                goOn(town, town.secondStands(tick));
                if (town.haveMet(wasOne, wasOther, first.at, second.at)) {
                    return tick + 1;
                }
            }
            return NONE;
        }

        private void goOn(Town town, boolean secondStands) {
            if (town.areHeard(first.at, second.at)) {
                if (!secondStands) {
                    second.at = town.nearer(second.at, first.at);
                }
                return;
            }
            int was = first.at;
            int step = first.stepOn(town);
            if (first.at != was && was >= 0 && was < MOST_PLACES) {
                leftBy[was] = step;
            }
            if (!secondStands) {
                goOnSecond(town);
            }
        }

        private void goOnSecond(Town town) {
            int here = second.at;
            if (town.marked && here >= 0 && here < MOST_PLACES && leftBy[here] != 0) {
                second.at = town.after(here, leftBy[here]);
            } else {
                second.stepOn(town);
            }
        }

        /** Sums up WHEN from all likely beginnings; false if one of these is NEVER. */
        boolean meetAlways(Town town, int one, int other) {
            allTimes = 0;
            longestTime = 0;
            for (int a = 0; a < town.places; a++) {
                for (int b = 0; b < town.places; b++) {
                    int likely = town.likelihood(a, b);
                    int ticks = likely == 0 ? 0 : ticksToMeet(town, one, other, a, b);
                    if (ticks == NONE) {
                        return false;
                    }
                    allTimes += likely * ticks;
                    longestTime = Math.max(longestTime, ticks);
                }
            }
            return true;
        }

        void beginThree(int one, int two, int last, int a, int b, int c) {
            first.begin(one, a);
            second.begin(two, b);
            third.begin(last, c);
        }

        int ticksOfThree(Town town) {
            for (int tick = 0; tick < MOST_TICKS; tick++) {
                if (areThreeTogether()) {
                    return tick;
                }
                goOnThree(town);
            }
            return areThreeTogether() ? MOST_TICKS : NONE;
        }

        private boolean areThreeTogether() {
            return first.at == second.at && second.at == third.at;
        }

        /** Who is where one ahead of it is goes with that one: once together, they never part. */
        private void goOnThree(Town town) {
            boolean secondHoldsFirst = second.at == first.at;
            boolean thirdHoldsFirst = third.at == first.at;
            boolean thirdHoldsSecond = third.at == second.at;
            first.stepOn(town);
            if (secondHoldsFirst) {
                second.at = first.at;
            } else {
                second.stepOn(town);
            }
            if (thirdHoldsFirst) {
                third.at = first.at;
            } else if (thirdHoldsSecond) {
                third.at = second.at;
            } else {
                third.stepOn(town);
            }
        }

        int ticksWandered(Town town, int seed, int a, int b) {
            if (a == b) {
                return 0;
            }
            int one = a;
            int other = b;
            int drawn = seed;
            for (int tick = 0; tick < MOST_WANDERED; tick++) {
                int wasOne = one;
                int wasOther = other;
                drawn = drawNext(drawn);
                one = town.after(one, stepOf(drawn));
                drawn = drawNext(drawn);
                other = town.after(other, stepOf(drawn));
                if (town.haveMet(wasOne, wasOther, one, other)) {
                    return tick + 1;
                }
            }
            return NONE;
        }

        private static int drawNext(int drawn) {
            return drawn * 1103515245 + 12345 & GREATEST;
        }

        private static int stepOf(int drawn) {
            return drawn / 65536 % STEPS;
        }
    }

    /** Which PLACES are SAME, PARTED, TURNED. */
    private static final class Likeness {
        private final boolean[] apart = new boolean[PAIRS];
        private final boolean[] reached = new boolean[PAIRS];
        private final int[] queue = new int[PAIRS];
        private int queued;
        private final int[] putOn = new int[MOST_PLACES];

        boolean nobodyTellsApart(Town town, int a, int b) {
            for (int pair = 0; pair < PAIRS; pair++) {
                int p = pair / MOST_PLACES;
                int q = pair % MOST_PLACES;
                apart[pair] = town.sightOf(p) != town.sightOf(q) || town.lanesAt(p) != town.lanesAt(q);
            }
            // each round but the last tells one pair more apart at least
            boolean more = true;
            for (int round = 0; round < PAIRS && more; round++) {
                more = tellMoreApart(town);
            }
            return !isIn(apart, a, b);
        }

        private boolean tellMoreApart(Town town) {
            boolean more = false;
            for (int pair = 0; pair < PAIRS; pair++) {
                if (!apart[pair] && leadApart(town, pair / MOST_PLACES, pair % MOST_PLACES)) {
                    apart[pair] = true;
                    more = true;
                }
            }
            return more;
        }

        private boolean leadApart(Town town, int p, int q) {
            for (int k = 0; k < town.lanesAt(p); k++) {
                if (isIn(apart, town.leadsTo(p, k), town.leadsTo(q, k))) {
                    return true;
                }
            }
            return false;
        }

        private static boolean isIn(boolean[] pairs, int p, int q) {
            int pair = p * MOST_PLACES + q;
            return p >= 0 && q >= 0 && q < MOST_PLACES && pair >= 0 && pair < pairs.length && pairs[pair];
        }

        boolean areKeptApart(Town town, int a, int b) {
            for (int pair = 0; pair < PAIRS; pair++) {
                reached[pair] = false;
            }
            queued = 0;
            reach(a, b);
            for (int i = 0; i < queued && i < PAIRS; i++) {
                int p = queue[i] / MOST_PLACES;
                int q = queue[i] % MOST_PLACES;
                for (int step = 1; step < STEPS; step++) {
                    int one = town.after(p, step);
                    int other = town.after(q, step);
                    if (town.haveMet(p, q, one, other)) {
                        return false;
                    }
                    reach(one, other);
                }
            }
            return true;
        }

        private void reach(int p, int q) {
            int pair = p * MOST_PLACES + q;
            if (pair >= 0 && pair < PAIRS && !reached[pair] && queued >= 0 && queued < PAIRS) {
                reached[pair] = true;
                queue[queued] = pair;
                queued++;
            }
        }

        /**
         * What the one and the other are put on settles all that lanes lead to from them; the
         * other PLACES can be put on themselves.
         */
        boolean turnIntoOneAnother(Town town, int a, int b) {
            for (int place = 0; place < MOST_PLACES; place++) {
                putOn[place] = NONE;
            }
            queued = 0;
            if (!put(a, b) || !put(b, a)) {
                return false;
            }
            for (int i = 0; i < queued && i < PAIRS; i++) {
                int p = queue[i] / MOST_PLACES;
                int q = queue[i] % MOST_PLACES;
                if (town.sightOf(p) != town.sightOf(q)) {
                    return false;
                }
                for (int k = 0; k < LANES_AT_A_PLACE; k++) {
                    if (!putWhatLanesLeadTo(town.opensTo(p, k), town.opensTo(q, k))) {
                        return false;
                    }
                }
            }
            return true;
        }

        private boolean putWhatLanesLeadTo(int p, int q) {
            if (p == NONE || q == NONE) {
                return p == q;
            }
            return put(p, q);
        }

        private boolean put(int p, int q) {
            if (p < 0 || p >= MOST_PLACES) {
                return false;
            }
            if (putOn[p] != NONE) {
                return putOn[p] == q;
            }
            if (queued >= 0 && queued < PAIRS) {
                putOn[p] = q;
                queue[queued] = p * MOST_PLACES + q;
                queued++;
            }
            return true;
        }
    }

    /** Where each two STEPS (5 times FIRST's and SECOND's) lead from each two PLACES. */
    private static final class Moves {
        private final int[][] leads = new int[STEP_PAIRS][PAIRS];
        private final int[][] meeting = new int[STEP_PAIRS][PAIRS];
        private final int[] meetings = new int[STEP_PAIRS];

        void lay(Town town) {
            for (int steps = 0; steps < STEP_PAIRS; steps++) {
                meetings[steps] = 0;
                for (int a = 0; a < town.places; a++) {
                    for (int b = 0; b < town.places; b++) {
                        if (a != b) {
                            layOne(town, steps, a, b);
                        }
                    }
                }
            }
        }

        private void layOne(Town town, int steps, int a, int b) {
            int pair = a * MOST_PLACES + b;
            if (!isMove(steps, pair)) {
                return;
            }
            int one = town.after(a, steps / STEPS);
            int other = town.after(b, steps % STEPS);
            if (!town.haveMet(a, b, one, other)) {
                leads[steps][pair] = one * MOST_PLACES + other;
                return;
            }
            leads[steps][pair] = NONE;
            if (meetings[steps] >= 0 && meetings[steps] < PAIRS) {
                meeting[steps][meetings[steps]] = pair;
                meetings[steps]++;
            }
        }

        private static boolean isMove(int steps, int pair) {
            return steps >= 0 && steps < STEP_PAIRS && pair >= 0 && pair < PAIRS;
        }

        /** The PLACES then (8 times FIRST's and SECOND's), NONE if they MEET. */
        int then(int steps, int pair) {
            return isMove(steps, pair) ? leads[steps][pair] : NONE;
        }

        /** Of likelihoods by PLACES how much is with those who MEET. */
        int metOf(int steps, int[] likely) {
            int met = 0;
            if (steps < 0 || steps >= STEP_PAIRS) {
                return 0;
            }
            for (int i = 0; i < meetings[steps] && i < PAIRS; i++) {
                int pair = meeting[steps][i];
                met += pair >= 0 && pair < likely.length ? likely[pair] : 0;
            }
            return met;
        }
    }

    /** The best AGREED rows, or the best row ALIKE. */
    private static final class Rows {
        private static final int MOST_AGREED = 3;
        private static final int MOST_ALIKE = 5;
        private static final int MOST_TURNS = 1000000;

        private final Moves moves;
        private final boolean areAlike;
        private int steps;
        private int length;
        private int missed;
        private int late;
        private final int[] best = new int[MOST_ALIKE];
        // the rows that are tried, and by TICKS done who have not met, and how likely all these are
        private final int[] tried = new int[MOST_ALIKE];
        private final int[][] apart = new int[MOST_ALIKE][PAIRS];
        private final int[] allApart = new int[MOST_ALIKE];

        Rows(Moves moves, boolean areAlike) {
            this.moves = moves;
            this.areAlike = areAlike;
        }

        int bestStep(int who, int k) {
            if (k < 0 || k >= length || k >= MOST_ALIKE) {
                return NONE;
            }
            return who == 0 || areAlike ? best[k] / STEPS : best[k] % STEPS;
        }

        /** Goes through all rows, the first ones ahead; the last TICK's STEPS are found at once. */
        void search(Town town, int ticks) {
            if (ticks < 1 || ticks > MOST_ALIKE) {
                return;
            }
            begin(town, ticks);
            int last = ticks - 1;
            int tick = 0;
            for (int turn = 0; turn < MOST_TURNS && tick >= 0 && tick <= last; turn++) {
                if (tick == last) {
                    endRows(town.secondStands(last));
                    tick--;
                } else if (tryNext(tick, town.secondStands(tick))) {
                    tick++;
                    tried[tick] = NONE;
                } else {
                    tick--;
                }
            }
        }

        private void begin(Town town, int ticks) {
            moves.lay(town);
            steps = town.mostLanesAtAPlace();
            length = ticks;
            missed = GREATEST;
            late = GREATEST;
            tried[0] = NONE;
            allApart[0] = 0;
            for (int pair = 0; pair < PAIRS; pair++) {
                int a = pair / MOST_PLACES;
                int b = pair % MOST_PLACES;
                apart[0][pair] = a == b ? 0 : town.likelihood(a, b);
                allApart[0] += apart[0][pair];
            }
        }

        /** The two STEPS behind those told; STEPS that a TICK passes over stay the least ones. */
        private int following(int told, boolean secondStands) {
            int stride = secondStands ? STEPS : areAlike ? STEPS + 1 : 1;
            int next = told == NONE ? 0 : told + stride;
            // a STEP above all LANES is a worse 0
            for (int turn = 0; turn < STEP_PAIRS && next < STEP_PAIRS; turn++) {
                if (next / STEPS <= steps && next % STEPS <= steps) {
                    return next;
                }
                next += stride;
            }
            return NONE;
        }

        private boolean tryNext(int tick, boolean secondStands) {
            if (tick < 0 || tick + 1 >= MOST_ALIKE) {
                return false;
            }
            int next = following(tried[tick], secondStands);
            if (next == NONE) {
                return false;
            }
            tried[tick] = next;
            int[] now = apart[tick];
            int[] then = apart[tick + 1];
            for (int pair = 0; pair < PAIRS; pair++) {
                then[pair] = 0;
            }
            int all = 0;
            for (int pair = 0; pair < PAIRS; pair++) {
                int there = now[pair] == 0 ? NONE : moves.then(next, pair);
                if (there >= 0 && there < PAIRS) {
                    then[there] += now[pair];
                    all += now[pair];
                }
            }
            allApart[tick + 1] = all;
            return true;
        }

        private void endRows(boolean secondStands) {
            int last = length - 1;
            if (last < 0 || last >= MOST_ALIKE) {
                return;
            }
            int most = NONE;
            int next = following(NONE, secondStands);
            for (int turn = 0; turn < STEP_PAIRS && next != NONE; turn++) {
                int met = moves.metOf(next, apart[last]);
                if (met > most) {
                    most = met;
                    tried[last] = next;
                }
                next = following(next, secondStands);
            }
            keepIfBetter(last, allApart[last] - most);
        }

        /** WHEN is the number of TICKS behind which (0 included) they had not met. */
        private void keepIfBetter(int last, int nowMissed) {
            int nowLate = nowMissed;
            for (int tick = 0; tick <= last && tick < MOST_ALIKE; tick++) {
                nowLate += allApart[tick];
            }
            if (nowMissed > missed || nowMissed == missed && nowLate >= late) {
                return;
            }
            missed = nowMissed;
            late = nowLate;
            for (int tick = 0; tick <= last && tick < MOST_ALIKE; tick++) {
                best[tick] = tried[tick];
            }
        }
    }

    /** Two who draw their WAYS. */
    private static final class Lots {
        private static final int CHANCES = 16;
        private static final int DRAWS = 4;
        private static final int MOST_TIMES = 5;

        private final Walker first;
        private final Walker second;
        // by what both draw (2 times FIRST's, SECOND's: 0 the one WAY, 1 the other) and PLACES
        private final int[] leads = new int[DRAWS * PAIRS];
        private final long[] now = new long[PAIRS];
        private final long[] then = new long[PAIRS];

        Lots(Ways ways) {
            first = new Walker(ways);
            second = new Walker(ways);
        }

        static boolean canBe(int ticks, int times) {
            return ticks >= 1 && ticks <= Ways.MOST_STEPS && times >= 1 && times <= MOST_TIMES;
        }

        void walkAll(Town town, int one, int other, int ticks) {
            for (int i = 0; i < DRAWS * PAIRS; i++) {
                int draw = i / PAIRS;
                first.begin(draw / 2 == 0 ? one : other, i % PAIRS / MOST_PLACES);
                second.begin(draw % 2 == 0 ? one : other, i % MOST_PLACES);
                boolean arePlaces = town.isPlace(first.at) && town.isPlace(second.at);
                leads[i] = arePlaces ? walkOnce(town, ticks) : NONE;
            }
        }

        /** The PLACES then, NONE if they have met. */
        private int walkOnce(Town town, int ticks) {
            if (first.at == second.at) {
                return NONE;
            }
            for (int tick = 0; tick < ticks; tick++) {
                int wasOne = first.at;
                int wasOther = second.at;
                first.stepOn(town);
                second.stepOn(town);
                if (town.haveMet(wasOne, wasOther, first.at, second.at)) {
                    return NONE;
                }
            }
            return first.at * MOST_PLACES + second.at;
        }

        long outOf(Town town, int times) {
            long all = town.allLikelihoods();
            for (int time = 0; time < times; time++) {
                all *= CHANCES * CHANCES;
            }
            return all;
        }

        /** Of all that can be drawn and begun with, how much makes them MEET. */
        long metBy(Town town, int n, int times) {
            long met = 0;
            for (int pair = 0; pair < PAIRS; pair++) {
                int likely = town.likelihood(pair / MOST_PLACES, pair % MOST_PLACES);
                boolean isMet = pair / MOST_PLACES == pair % MOST_PLACES;
                now[pair] = isMet ? 0 : likely;
                met += isMet ? likely : 0;
            }
            for (int time = 0; time < times; time++) {
                met = CHANCES * CHANCES * met + drawOnce(n);
            }
            return met;
        }

        private long drawOnce(int n) {
            long met = 0;
            for (int i = 0; i < DRAWS * PAIRS; i++) {
                int draw = i / PAIRS;
                int chances = (draw / 2 == 0 ? n : CHANCES - n) * (draw % 2 == 0 ? n : CHANCES - n);
                long share = now[i % PAIRS] * chances;
                if (leads[i] >= 0 && leads[i] < PAIRS) {
                    then[leads[i]] += share;
                } else {
                    met += share;
                }
            }
            for (int pair = 0; pair < PAIRS; pair++) {
                now[pair] = then[pair];
                then[pair] = 0;
            }
            return met;
        }
    }

    /** FIRST picks a row, SECOND a column, neither knowing, of what it is worth then. */
    private static final class Game {
        private static final int HIGHEST_CAP = 100;
        // three CHANCES and what they are worth, all times the CHANCES' sum
        private static final int WORTH = MOST_PICKED;
        private static final int PARTS = MOST_PICKED + 1;

        private int picks;
        private int otherPicks;
        private final int[] worths = new int[MOST_PICKED * MOST_PICKED];
        private final long[] best = new long[PARTS];
        private final long[] corner = new long[PARTS];
        private final long[] edges = new long[MOST_PICKED * PARTS];

        void begin(int many, int otherMany) {
            picks = many;
            otherPicks = otherMany;
            for (int i = 0; i < worths.length; i++) {
                worths[i] = 0;
            }
            for (int k = 0; k < PARTS; k++) {
                best[k] = 0;
            }
        }

        void tellWorth(int i, int j, int worth) {
            if (i >= 0 && i < MOST_PICKED && j >= 0 && j < MOST_PICKED) {
                worths[i * MOST_PICKED + j] = worth;
            }
        }

        long worthOfBest() {
            return best[WORTH];
        }

        long bottomOfBest() {
            return sum(best);
        }

        long chanceOfBest(int k) {
            return k >= 0 && k < MOST_PICKED ? best[k] : 0;
        }

        private static long sum(long[] parts) {
            long sum = 0;
            for (int k = 0; k < MOST_PICKED && k < parts.length; k++) {
                sum += parts[k];
            }
            return sum;
        }

        /**
         * The CHANCES that are best and the first among these stand in a corner: three of the
         * edges hold there sharply (bits 0 to 2: a WAY has no CHANCE; 3 to 5: against this one of
         * SECOND's WAYS it is worth the whole).
         */
        void solve() {
            for (int held = 0; held < 1 << 2 * MOST_PICKED; held++) {
                if (layEdges(held) && findCorner() && isAllowed() && isBetter()) {
                    for (int k = 0; k < PARTS; k++) {
                        best[k] = corner[k];
                    }
                }
            }
        }

        private boolean layEdges(int held) {
            if (Integer.bitCount(held) != MOST_PICKED) {
                return false;
            }
            int edge = 0;
            for (int bit = 0; bit < 2 * MOST_PICKED; bit++) {
                boolean isHeld = (held >> bit & 1) != 0;
                if (!isHeld && bit >= picks && bit < MOST_PICKED) {
                    return false;
                }
                if (isHeld && bit - MOST_PICKED >= otherPicks) {
                    return false;
                }
                if (isHeld) {
                    layEdge(edge, bit);
                    edge++;
                }
            }
            return true;
        }

        private void layEdge(int edge, int bit) {
            for (int k = 0; k < PARTS; k++) {
                int i = edge * PARTS + k;
                if (i < 0 || i >= edges.length) {
                    return;
                }
                if (bit < MOST_PICKED) {
                    edges[i] = k == bit ? 1 : 0;
                } else {
                    edges[i] = k == WORTH ? -1 : worthAt(k, bit - MOST_PICKED);
                }
            }
        }

        private int worthAt(int i, int j) {
            int at = i * MOST_PICKED + j;
            return at >= 0 && at < worths.length ? worths[at] : 0;
        }

        /** What is square to all three edges; false if that is no corner. */
        private boolean findCorner() {
            corner[0] = minor(1, 2, 3);
            corner[1] = -minor(0, 2, 3);
            corner[2] = minor(0, 1, 3);
            corner[3] = -minor(0, 1, 2);
            long sum = sum(corner);
            if (sum < 0) {
                for (int k = 0; k < PARTS; k++) {
                    corner[k] = -corner[k];
                }
            }
            return sum != 0;
        }

        private long minor(int x, int y, int z) {
            return edge(0, x) * (edge(1, y) * edge(2, z) - edge(1, z) * edge(2, y))
                    - edge(0, y) * (edge(1, x) * edge(2, z) - edge(1, z) * edge(2, x))
                    + edge(0, z) * (edge(1, x) * edge(2, y) - edge(1, y) * edge(2, x));
        }

        private long edge(int edge, int k) {
            int i = edge * PARTS + k;
            return i >= 0 && i < edges.length ? edges[i] : 0;
        }

        private boolean isAllowed() {
            for (int k = 0; k < MOST_PICKED; k++) {
                if (corner[k] < 0) {
                    return false;
                }
            }
            for (int j = 0; j < otherPicks; j++) {
                long worth = 0;
                for (int k = 0; k < MOST_PICKED; k++) {
                    worth += corner[k] * worthAt(k, j);
                }
                if (worth > corner[WORTH]) {
                    return false;
                }
            }
            return true;
        }

        /** Less worth, then a greater CHANCE of the first WAY, then of the second. */
        private boolean isBetter() {
            long bestSum = sum(best);
            if (bestSum == 0) {
                return true;
            }
            long sum = sum(corner);
            int order = Long.compare(best[WORTH] * sum, corner[WORTH] * bestSum);
            for (int k = 0; k < 2 && order == 0; k++) {
                order = Long.compare(corner[k] * bestSum, best[k] * sum);
            }
            return order > 0;
        }
    }
}
