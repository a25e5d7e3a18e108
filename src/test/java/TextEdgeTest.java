/** The edges that the document names for the TOWN as a text: the rest of term 1, promises 9 to 16. */
public final class TextEdgeTest {
    private static final String TWO = "place a;place b;lane a to b;";
    private static final String EIGHT = "place a;place b;place c;place d;place e;place f;place g;place h;";
    private static final String TWELVE = EIGHT + "lane a to b;lane b to c;lane c to d;lane d to e;lane e to f;"
            + "lane f to g;lane g to h;lane h to a;lane a to e;lane b to f;lane c to g;lane d to h;";
    /** Four LANES at a, three at b. */
    private static final String STAR = EIGHT + "lane a to b;lane c to a;lane a to d;lane e to a;lane b to c;lane d to b;";
    private static final String[] KEPT = {"place", "lane", "to", "cross", "slow", "hears", "sees", "first", "second"};

    public static void main(String[] args) {
        atMost500Bytes();
        feedSays();
        firstBytes();
        asLongAsTheyGo();
        blanks();
        smallLetters();
        oneOrTwoDigits();
        theSign();
        anyNumberOfTimes();
        names();
        keptWords();
        placesAsTheyStand();
        sights();
        likelihoods();
        lanesBothWays();
        lanesAsTheyStand();
        slow();
        hears();
        firstAlongTheText();
        leastKind();
        fault1();
        fault2();
        theEnd();
        fault3();
        fault4();
        fault5();
        fault6();
        taken();
        fault();
        many();
        place();
        shut();
        distance();
        Seek.end();
    }

    /** The FAULT of a text and its place; 0 and NONE of a TOWN. */
    private static void told(String text, int kind, int at) {
        TwoSeek x = new TwoSeek();
        int places = Seek.town(x, text);
        Seek.due("NONE of '" + text + "'", places == -1, kind != 0);
        Seek.due("STATUS of '" + text + "'", x.status(), kind == 0 ? 0 : 10);
        Seek.due("FAULT of '" + text + "'", x.fault(0), kind);
        Seek.due("its place in '" + text + "'", x.fault(1), at);
    }

    private static void fine(String text) {
        told(text, 0, -1);
    }

    /** A FAULT at the sign that is marked by a < ahead of it. */
    private static void at(String marked, int kind) {
        int at = marked.indexOf('<');
        told(marked.substring(0, at) + marked.substring(at + 1), kind, at);
    }

    private static String blanks(int many) {
        return " ".repeat(many);
    }

    private static void atMost500Bytes() {
        Seek.says("A TOWN is a TEXT of at most 500 bytes.");
        String whole = "place a" + blanks(484) + "sees 5  ;";
        Seek.due("the text's length", whole.length(), 500);
        fine(whole);
        fine(blanks(500));
        at("place a" + blanks(484) + "sees 5   <", 2);
        at(blanks(499) + "<A", 1);
        at(blanks(494) + "place <", 2);
        at(blanks(498) + "<to", 2);
        TwoSeek x = new TwoSeek();
        Seek.feed(x, whole);
        Seek.due(x, "the last byte is not read", x.town(499), -1, 10);
        Seek.due("the end", x.fault(1), 499);
        String many = "place a;" + "cross;cross;".repeat(41);
        Seek.due("the text's length", many.length(), 500);
        told(many, 5, 14);
        told(";".repeat(500), 2, 0);
        told("a".repeat(500), 2, 0);
        told("1".repeat(500), 1, 0);
        told("place " + "a".repeat(494), 2, 6);
    }

    private static void feedSays() {
        Seek.says("Twenty bytes come behind those on the tape, the highest of each int first: how many it has;"
                + " NONE if there would be more than 500.");
        TwoSeek x = new TwoSeek();
        // "place abcdefgh sees " "5;                  "
        Seek.due("20", x.feed(0x706c6163, 0x65206162, 0x63646566, 0x67682073, 0x65657320), 20);
        Seek.due("40", x.feed(0x353b2020, 0x20202020, 0x20202020, 0x20202020, 0x20202020), 40);
        for (int k = 3; k <= 25; k++) {
            Seek.due("more", x.feed(0x20202020, 0x20202020, 0x20202020, 0x20202020, 0x2020203b), 20 * k);
        }
        Seek.due("520", x.feed(0x20202020, 0x20202020, 0x20202020, 0x20202020, 0x20202020), -1);
        Seek.due("520 again", x.feed(-1, -1, -1, -1, -1), -1);
        Seek.due(x, "501", x.town(501), -1, 5);
        Seek.due(x, "the tape as it was", x.town(500), -1, 10);
        Seek.due("a sign too many", x.fault(0), 2);
        Seek.due("a sign too many", x.fault(1), 59);
        Seek.due("20", x.feed(0x706c6163, 0x65206162, 0x63646566, 0x67682073, 0x65657320), 20);
        Seek.due("40", x.feed(0x353b2020, 0xffffffff, 0x80808080, 0x7f7f7f7f, 0), 40);
        Seek.due(x, "up to the sign", x.town(22), 1, 0);
        Seek.due("its SIGHT", x.place(0, 0), 5);
        for (int v : new int[] {0xff, 0x80, 0x7f, 0, 0xe9}) {
            for (int shift = 0; shift < 32; shift += 8) {
                x.town(0);
                x.feed(0x20202020, 0x20202020, 0x20202020 ^ (0x20 ^ v) << shift, 0x20202020, 0x20202020);
                Seek.due(x, "byte " + v, x.town(20), -1, 10);
                Seek.due("no TOKEN", x.fault(0), 1);
                Seek.due("its place", x.fault(1), 11 - shift / 8);
            }
        }
    }

    private static void firstBytes() {
        Seek.says("The first n bytes of the tape (which is empty then, but for 5) are the TOWN:"
                + " how many PLACES (5; 10: the old one stays).");
        TwoSeek x = new TwoSeek();
        Seek.due(x, "none of an empty tape", x.town(0), 0, 0);
        Seek.due(x, "one of an empty tape", x.town(1), -1, 5);
        Seek.feed(x, "place a;place b;place c;");
        int[] cant = {-1, 41, 500, 501, Integer.MIN_VALUE, Integer.MAX_VALUE};
        for (int n : cant) {
            Seek.due(x, n + " of 40", x.town(n), -1, 5);
        }
        Seek.due("the tape is not empty with 5", x.feed(0x20202020, 0x20202020, 0x20202020, 0x20202020, 0x20202020), 60);
        Seek.due(x, "16 of 60", x.town(16), 2, 0);
        Seek.due("PLACES", x.many(0), 2);
        Seek.due(x, "the tape is empty then", x.town(1), -1, 5);
        Seek.feed(x, "place a;place b;place c;");
        Seek.due(x, "all of 40", x.town(40), 3, 0);
        Seek.feed(x, "place a;");
        Seek.due(x, "with a FAULT", x.town(7), -1, 10);
        Seek.due("the old one stays", x.many(0), 3);
        Seek.due(x, "the tape is empty with 10", x.town(1), -1, 5);
        Seek.due("the tape is empty with 10", x.feed(0, 0, 0, 0, 0), 20);
        Seek.due(x, "none of 20", x.town(0), 0, 0);
        Seek.due("no PLACES", x.many(0), 0);
        Seek.due(x, "the tape is empty with none", x.town(1), -1, 5);
    }

    private static void asLongAsTheyGo() {
        Seek.says("TOKENS, as long as they go, between them blanks (10, 32)");
        fine("place a sees5first9second0;place b;lane a to b;slow4;hears3;cross;");
        fine("place\na\n;\ncross\n;");
        // a WORD goes as far as there are letters, a NUMBER as far as there are digits
        fine("place bc;");
        at("place b <c;", 2);
        at("<placeb;", 2);
        at("place a;place b;lane a <tob;", 2);
        at("place a <seesfirst 1;", 2);
        at("<cro ss;", 2);
        at("place a sees <12;", 4);
        at("place a first 1 <0;", 2);
        at("slow <12;", 4);
        at("slow 1\n<2;", 2);
        at("slow <123;", 1);
        at("slow <12 3;", 4);
    }

    private static void blanks() {
        Seek.says("between them blanks (10, 32)");
        fine("\n \n  \n\n");
        fine(" \ncross\n ;\n ");
        for (int sign : new int[] {0, 9, 11, 12, 13, 31, 33, 42, 127, 128, 138, 160, 255}) {
            told("cross" + (char) sign + ";", 1, 5);
            told(String.valueOf((char) sign), 1, 0);
        }
    }

    private static void smallLetters() {
        Seek.says("WORDS (small letters)");
        fine("place az;place za;");
        for (int sign : new int[] {'a' - 1, 'z' + 1, 'A', 'Z', 'A' - 1, 'Z' + 1, '_', 0xe9, 0xe1}) {
            told("place a" + (char) sign + ";", 1, 7);
            told("place " + (char) sign + "a;", 1, 6);
        }
        at("<Place a;", 1);
        at("<pLace a;", 2);
    }

    private static void oneOrTwoDigits() {
        Seek.says("NUMBERS (1 or 2 digits)");
        fine("place a first 9 second 0;");
        fine("place a first 09 second 00;");
        fine("slow 04;hears 03;");
        for (int sign : new int[] {'0' - 1, '9' + 1}) {
            told("slow " + (char) sign, 1, 5);
            told("slow 1" + (char) sign, 1, 6);
        }
        Seek.says("(a NUMBER of 3 digits and more: at its first)");
        at("slow <001;", 1);
        at("slow <100;", 1);
        at("slow <0000000000000000000000001;", 1);
        at("slow <4294967297;", 1);
        at("slow <18446744073709551617;", 1);
        at("<123", 1);
        at("place a <999;", 1);
        at("place a;lane <999;", 1);
    }

    private static void theSign() {
        Seek.says("the SIGN ;");
        for (int sign : new int[] {';' - 1, ';' + 1, ',', '.'}) {
            told("cross" + (char) sign, 1, 5);
        }
        at("<;", 2);
        at("cross;<;", 2);
        at("place <;", 2);
        at("place a;lane <;", 2);
        at("place a;lane a <;", 2);
        at("place a;lane a to <;", 2);
        at("slow <;", 2);
        at("hears <;", 2);
        at("place a sees <;", 2);
    }

    private static void anyNumberOfTimes() {
        Seek.says("({ } any number of times.)");
        fine("");
        fine("place a;");
        fine("place a sees 1;");
        fine("place a second 1 first 1 sees 1;");
        fine("hears 1;place a;cross;place b;slow 2;lane b to a;place c;lane a to c;");
        TwoSeek x = new TwoSeek();
        String most = TWELVE + "cross;slow 1;hears 0;";
        Seek.due(x, "all that a TOWN can have", Seek.town(x, most), 8, 0);
        Seek.due(x, "its LANES", x.many(1), 12, 0);
        Seek.due(x, "no part at all", x.town(0), 0, 0);
        Seek.due(x, "no PLACES", x.many(0), 0, 0);
        Seek.due(x, "no LANES", x.many(1), 0, 0);
        Seek.due(x, "blanks alone", Seek.town(x, "   \n "), 0, 0);
    }

    private static void names() {
        Seek.says("NAME: a WORD of 1 to 8 letters");
        fine("place a;place z;lane a to z;");
        fine("place abcdefgh;place zzzzzzzz;lane abcdefgh to zzzzzzzz;");
        at("place <abcdefghi;", 2);
        at("place a;lane <abcdefghi to a;", 2);
        at("place a;lane a to <abcdefghi;", 2);
        at("place <abcdefghijklmnop;", 2);
        // all letters count, the first and the last, and how many there are
        fine("place aaaaaaaa;place aaaaaaab;place baaaaaaa;place aaaaaaa;place a;place aa;");
        at("place aaaaaaaa;place <aaaaaaaa;", 3);
        at("place aaaaaaab;lane <aaaaaaaa to aaaaaaab;", 3);
        at("place aaaaaaab;lane <aaaaaaa to aaaaaaab;", 3);
        at("place aaaaaaab;lane aaaaaaab to <baaaaaaa;", 3);
    }

    private static void keptWords() {
        Seek.says("that is none of place, lane, to, cross, slow, hears, sees, first, second");
        for (String word : KEPT) {
            told("place " + word + ";", 2, 6);
            told("place a;lane " + word + " to a;", 2, 13);
            told("place a;lane a to " + word + ";", 2, 18);
            fine("place " + word + "a;");
            fine("place a" + word + ";");
            fine("place " + word.substring(1) + ";");
            String most = word.length() == 2 ? word : word.substring(0, word.length() - 1);
            told("place " + most + ";", word.equals(most) ? 2 : 0, word.equals(most) ? 6 : -1);
        }
    }

    private static void placesAsTheyStand() {
        Seek.says("PLACES, at most 8, numbered as they stand");
        TwoSeek x = Seek.in("place h sees 1;place a sees 2;place d sees 3;");
        Seek.due("as they stand", x.place(0, 0), 1);
        Seek.due("as they stand", x.place(1, 0), 2);
        Seek.due("as they stand", x.place(2, 0), 3);
        Seek.due(x, "no more", x.place(3, 0), -1, 2);
        x = Seek.in(EIGHT);
        Seek.due(x, "eight", x.many(0), 8, 0);
        Seek.due(x, "the last", x.place(7, 0), 0, 0);
        Seek.due(x, "none behind it", x.place(8, 0), -1, 2);
        at(EIGHT + "place <i;", 6);
        at(EIGHT + "place <", 2);
    }

    private static void sights() {
        Seek.says("a SIGHT (sees: 0 to 5; 0 without)");
        StringBuilder b = new StringBuilder("place x;");
        for (int k = 0; k <= 5; k++) {
            b.append("place ").append((char) ('a' + k)).append(" sees ").append(k).append(';');
        }
        TwoSeek x = Seek.in(b + "place y first 5;");
        Seek.due("without", x.place(0, 0), 0);
        for (int k = 0; k <= 5; k++) {
            Seek.due("sees " + k, x.place(1 + k, 0), k);
        }
        Seek.due("without", x.place(7, 0), 0);
        at("place a sees <6;", 4);
        at("place a sees <06;", 4);
        at("place a sees <10;", 4);
        at("place a sees <99;", 4);
    }

    /** How likely a beginning is tells the MEAN. */
    private static void likelihoods() {
        Seek.says("how likely the FIRST one begins there (first: 0 to 9; 1 without), and the SECOND one (second: likewise)");
        for (int k = 0; k <= 9; k++) {
            // FIRST waits, SECOND goes by the one LANE: 0 if both begin in b, 1 if the other one in a
            mean("place a first 0 second " + k + ";place b;lane a to b;", k, 1 + k);
            mean("place a first 0;place b second " + k + ";lane a to b;", 1, 1 + k);
            mean("place a second 0;place b first " + k + ";lane b to a;", 1, k + 1);
            mean("place a second 0 first " + k + ";place b;lane b to a;", k, k + 1);
        }
        for (String who : new String[] {"first", "second"}) {
            told("place a " + who + " 10;", 4, 9 + who.length());
            told("place a " + who + " 99;", 4, 9 + who.length());
            fine("place a " + who + " 9;");
            fine("place a " + who + " 0;");
        }
    }

    private static void mean(String town, int top, int bottom) {
        TwoSeek x = Seek.in(town);
        Seek.clock(x, true, 0);
        Seek.clock(x, true, 1);
        Seek.due(x, "MEAN in " + town, x.mean(0, 1), true, 0);
        long divisor = top == 0 ? bottom : 1;
        for (int d = 2; d <= top; d++) {
            divisor = top % d == 0 && bottom % d == 0 ? d : divisor;
        }
        Seek.dueFraction(x, "MEAN in " + town, top / divisor, bottom / divisor);
    }

    private static void lanesBothWays() {
        Seek.says("between two PLACES, walked both ways");
        TwoSeek x = Seek.in(TWO);
        Seek.due("there", x.place(0, 2), 1);
        Seek.due("back", x.place(1, 2), 0);
        Seek.due("there", x.distance(0, 1), 1);
        Seek.due("back", x.distance(1, 0), 1);
        Seek.clock(x, true, 0);
        Seek.clock(x, true, 1);
        Seek.due(x, "there", x.when(1, 0, 0, 1), 1, 0);
        Seek.due(x, "back", x.when(1, 0, 1, 0), 1, 0);
    }

    private static void lanesAsTheyStand() {
        Seek.says("at a PLACE its LANES are numbered from 0 as they stand");
        TwoSeek x = Seek.in("place a;place b;place c;place d;place e;lane d to a;lane a to c;lane c to b;lane e to a;lane a to b;");
        int[][] due = {{3, 2, 4, 1}, {2, 0}, {0, 1}, {0}, {0}};
        for (int p = 0; p < 5; p++) {
            Seek.due(x, "how many at " + p, x.place(p, 1), due[p].length, 0);
            for (int k = 0; k < 4; k++) {
                boolean is = k < due[p].length;
                Seek.due(x, "LANE " + k + " of " + p, x.place(p, 2 + k), is ? due[p][k] : -1, is ? 0 : 8);
            }
        }
        Seek.says("LANES, at most 12, numbered as they stand");
        x = Seek.in(TWELVE);
        Seek.due(x, "twelve", x.many(1), 12, 0);
        int[][] ends = {{0, 1}, {1, 2}, {2, 3}, {3, 4}, {4, 5}, {5, 6}, {6, 7}, {7, 0}, {0, 4}, {1, 5}, {2, 6}, {3, 7}};
        for (int lane = 0; lane < 12; lane++) {
            x.shut(lane, true);
            for (int other = 0; other < 12; other++) {
                boolean is = x.distance(ends[other][0], ends[other][1]) == 1;
                Seek.due("LANE " + other + " open while " + lane + " is SHUT", is, other != lane);
            }
            x.shut(lane, false);
        }
    }

    private static void slow() {
        Seek.says("slow: the SECOND one steps in every so-many-th TICK alone (1 to 4; 1 without)");
        String path = "place a;place b;place c;lane a to b;lane b to c;";
        for (int slow = 0; slow <= 4; slow++) {
            TwoSeek x = Seek.in(path + (slow == 0 ? "" : "slow " + slow + ";"));
            Seek.clock(x, true, 0);
            Seek.clock(x, true, 1);
            // two steps: in TICK 0, then in TICK slow
            Seek.due(x, "slow " + slow, x.when(0, 1, 2, 0), -1, 8);
            Seek.due(x, "slow " + slow, x.when(0, 1, 0, 2), 1 + Math.max(1, slow), 0);
        }
        at("slow <0;", 4);
        at("slow <5;", 4);
        at("slow <00;", 4);
        at("slow <14;", 4);
        fine("slow 1;");
        fine("slow 4;");
    }

    private static void hears() {
        Seek.says("hears: 0 to 3 (0 without)");
        String path = EIGHT + "lane a to b;lane b to c;lane c to d;lane d to e;";
        for (int hears = -1; hears <= 3; hears++) {
            TwoSeek x = Seek.in(path + (hears < 0 ? "" : "hears " + hears + ";"));
            Seek.clock(x, true, 0);
            for (int b = 1; b <= 4; b++) {
                Seek.due(x, "hears " + hears + " at " + b, x.when(0, 0, 0, b), b <= hears ? b : -1, b <= hears ? 0 : 8);
            }
        }
        fine("hears 0;");
        fine("hears 3;");
        at("hears <4;", 4);
        at("hears <30;", 4);
    }

    private static void firstAlongTheText() {
        Seek.says("FAULTS, the first along the text");
        at("place a;place <a;place a;?", 3);
        at("slow <5;hears 4;", 4);
        at("place a sees <6 first 10 second 10;", 4);
        at("place a sees 1 <sees 6;", 5);
        at("place a;lane a to <a ?", 5);
        at("place a;lane <b to c;", 3);
        at("cross;<cross 5", 5);
        at("cross <cross;", 2);
        at(TWELVE + "<lane ?", 6);
        at(EIGHT + "place <i sees 6;", 6);
        at(STAR + "lane <a to a;", 6);
        at(STAR + "lane <a to zz;", 6);
        at(STAR + "lane <a ?", 6);
        at("place <place;?", 2);
        at("place a;<?lane a to a;", 1);
    }

    private static void leastKind() {
        Seek.says("(of one TOKEN the least kind)");
        // 1 ahead of 2, 4 and 6
        at("place <999;", 1);
        at("slow <999;", 1);
        at(EIGHT + "place <?;", 1);
        at(STAR + "lane f to <?;", 1);
        // 2 ahead of 3, 4 and 6
        at("slow <a;", 2);
        at("place a;lane <slow to a;", 2);
        at("place <99;", 2);
        at(EIGHT + "place <place;", 2);
        at(EIGHT + "place <abcdefghi;", 2);
        at(STAR + "lane f to <99;", 2);
        // 3 ahead of 6: a NAME that is there already would be a ninth place, too
        at(EIGHT + "place <a;", 3);
        at(EIGHT + "place <h;", 3);
        at(STAR + "lane f to <z;", 3);
        // 5 ahead of 6: a LANE from a PLACE to itself would be a fifth one there, too
        String three = EIGHT + "lane a to b;lane c to a;lane a to d;";
        at(three + "lane a to <a;", 5);
        at(three + "lane e to a;lane <a to a;", 6);
    }

    private static void fault1() {
        Seek.says("1 no TOKEN begins so");
        for (int sign = 0; sign < 256; sign++) {
            boolean begins = sign >= 'a' && sign <= 'z' || sign >= '0' && sign <= '9' || sign == ';';
            boolean blank = sign == 10 || sign == 32;
            told("cross;" + (char) sign, blank ? 0 : begins ? 2 : 1, blank ? -1 : 6);
        }
    }

    private static void fault2() {
        Seek.says("2 it can't stand there");
        at("<a;", 2);
        at("<to;", 2);
        at("<sees 1;", 2);
        at("<first 1;", 2);
        at("<second 1;", 2);
        at("<1;", 2);
        at("place a <b;", 2);
        at("place a <1;", 2);
        at("place a <to;", 2);
        at("place a <place b;", 2);
        at("place a <slow 1;", 2);
        at("place a sees <b;", 2);
        at("place a sees <first 1;", 2);
        at("place a sees 1 <1;", 2);
        at("place a;lane a <a;", 2);
        at("place a;lane a <1;", 2);
        at("place a;lane a to <1;", 2);
        at("place a;lane a to <to;", 2);
        at(TWO.substring(0, TWO.length() - 1) + " <sees 1;", 2);
        at(TWO.substring(0, TWO.length() - 1) + " <a;", 2);
        at("cross <1;", 2);
        at("slow <a;", 2);
        at("slow 1 <1;", 2);
        at("slow 1 <cross;", 2);
        at("hears <slow 1;", 2);
        at("hears 1 <a;", 2);
    }

    private static void theEnd() {
        Seek.says("(the end: the text's length)");
        String[] parts = {"place", "place a", "place a sees", "place a sees 1", "place a;lane", "place a;lane a",
            "place a;lane a to", TWO.substring(0, TWO.length() - 1), "cross", "slow", "slow 1", "hears", "hears 1"};
        for (String part : parts) {
            told(part, 2, part.length());
            told(part + " \n  ", 2, part.length() + 4);
            told("\n" + part, 2, part.length() + 1);
        }
        TwoSeek x = new TwoSeek();
        Seek.feed(x, "cross;");
        Seek.due(x, "the text ends ahead of the tape", x.town(5), -1, 10);
        Seek.due("2", x.fault(0), 2);
        Seek.due("the text's length, not the tape's", x.fault(1), 5);
        Seek.feed(x, "cross;cross;");
        Seek.due(x, "a WORD ends with the text", x.town(8), -1, 10);
        Seek.due("2", x.fault(0), 2);
        Seek.due("its place", x.fault(1), 6);
        Seek.feed(x, "slow 12;");
        Seek.due(x, "a NUMBER ends with the text", x.town(6), -1, 10);
        Seek.due("2", x.fault(0), 2);
        Seek.due("the end", x.fault(1), 6);
        Seek.feed(x, "slow 123;");
        Seek.due(x, "a NUMBER of two digits", x.town(7), -1, 10);
        Seek.due("4", x.fault(0), 4);
        Seek.due("its place", x.fault(1), 5);
    }

    private static void fault3() {
        Seek.says("3 a NAME of a place that is there already; a NAME of a lane that is no place told ahead.");
        at("place a;place <a;", 3);
        at("place a;place b;place c;place <b sees 1;", 3);
        at("lane <a to b;place a;place b;", 3);
        at("place a;lane <b to a;place b;", 3);
        at("place a;lane a to <b;place b;", 3);
        fine("place a;place b;lane a to b;place c;lane a to c;");
        at("place ab;lane <a to ab;", 3);
        at("place a;lane a to <ab;", 3);
        // names of the town that was there ahead do not count
        TwoSeek x = Seek.in("place a;place b;");
        Seek.due(x, "a", Seek.town(x, "place a;place c;lane a to b;"), -1, 10);
        Seek.due("3", x.fault(0), 3);
        Seek.due("at b", x.fault(1), 26);
        Seek.due(x, "a is told anew", Seek.town(x, "place b;place a;"), 2, 0);
    }

    private static void fault4() {
        Seek.says("4 a NUMBER that can't be.");
        at("place a sees <6;", 4);
        at("place a first <10;", 4);
        at("place a second <10;", 4);
        at("slow <0;", 4);
        at("slow <5;", 4);
        at("hears <4;", 4);
        at("place a;place b first 1 second 2 sees <7;", 4);
    }

    private static void fault5() {
        Seek.says("5 a lane to the place that it is from (at its second NAME)");
        at("place a;lane a to <a;", 5);
        at(TWO + "lane b to <b;", 5);
        Seek.says("a FEATURE that its place has already (at its WORD)");
        for (String f : new String[] {"sees", "first", "second"}) {
            at("place a " + f + " 1 <" + f + " 1;", 5);
            at("place a " + f + " 0 <" + f + " 0;", 5);
            at("place a " + f + " 1 <" + f + ";", 5);
            at("place a " + f + " 1 <" + f + " 99;", 5);
            fine("place a " + f + " 1;place b " + f + " 1;");
        }
        at("place a sees 1 first 1 second 1 <sees 2;", 5);
        at("place a sees 1 first 1 second 1 <first 2;", 5);
        at("place a sees 1 first 1 second 1 <second 2;", 5);
        Seek.says("cross, slow, hears told already (at that WORD)");
        at("cross;<cross;", 5);
        at("slow 1;<slow 1;", 5);
        at("slow 2;<slow 9;", 5);
        at("hears 0;<hears 0;", 5);
        at("hears 3;<hears;", 5);
        at("cross;slow 1;hears 0;place a;<cross;", 5);
        at("cross;slow 1;hears 0;place a;<slow 1;", 5);
        at("cross;slow 1;hears 0;place a;<hears 0;", 5);
        // what the town ahead told, or a text with a FAULT, is not told already
        TwoSeek x = Seek.in("cross;slow 2;hears 2;");
        Seek.due(x, "anew", Seek.town(x, "cross;slow 2;hears 2;?"), -1, 10);
        Seek.due(x, "anew", Seek.town(x, "cross;slow 2;hears 2;"), 0, 0);
    }

    private static void fault6() {
        Seek.says("6 a ninth place (at its NAME)");
        at(EIGHT + "place <i;", 6);
        at(EIGHT + "place <i", 6);
        fine(EIGHT);
        Seek.says("a 13th lane (at its WORD)");
        at(TWELVE + "<lane a to c;", 6);
        at(TWELVE + "<lane", 6);
        at(TWELVE + "<lane a to a;", 6);
        fine(TWELVE);
        Seek.says("a fifth lane at a place (at that place's NAME)");
        at(STAR + "lane <a to f;", 6);
        at(STAR + "lane f to <a;", 6);
        at(STAR + "lane f to b;lane <b to g;", 6);
        at(STAR + "lane f to b;lane g to <b;", 6);
        at(STAR + "lane f to b;lane <a to b;", 6);
        fine(STAR + "lane f to b;");
        Seek.says("a lane that there is already, either way (at its second NAME)");
        at(TWO + "lane a to <b;", 6);
        at(TWO + "lane b to <a;", 6);
        at("place a;place b;place c;lane a to b;lane b to c;lane c to a;lane c to <b;", 6);
        at("place a;place b;place c;lane a to b;lane b to c;lane c to a;lane a to <c;", 6);
        at("place a;place b;place c;lane b to a;lane a to c;lane b to <a ;", 6);
    }

    private static void taken() {
        Seek.says("A TOWN that is taken is there in place of that ahead; no LANE is SHUT then, MARKS are off; WAYS stay.");
        TwoSeek x = Seek.in(EIGHT + "lane a to b;lane b to c;lane c to d;lane d to e;cross;slow 4;hears 3;");
        Seek.clock(x, true, 0);
        Seek.clock(x, true, 1);
        Seek.clock(x, false, 1, 2);
        Seek.clock(x, true, 2);
        for (int lane = 0; lane < 4; lane++) {
            x.shut(lane, true);
        }
        x.marks(true);
        Seek.due(x, "another", Seek.town(x, "place p;place q;place r;lane p to q;lane q to r;"), 3, 0);
        Seek.due("PLACES", x.many(0), 3);
        Seek.due("LANES", x.many(1), 2);
        Seek.due("WAYS", x.many(2), 4);
        Seek.due(x, "no PLACE of that ahead", x.place(3, 0), -1, 2);
        Seek.due(x, "no LANE of that ahead", x.shut(2, true), false, 2);
        Seek.due(x, "no LANE is SHUT", x.distance(0, 2), 2, 0);
        Seek.due(x, "no hearing, not slow", x.when(0, 1, 1, 0), 1, 0);
        Seek.due(x, "no hearing", x.when(0, 0, 1, 0), -1, 8);
        Seek.due(x, "not slow", x.when(0, 1, 0, 2), 2, 0);
        Seek.due(x, "no cross", x.when(1, 1, 0, 1), -1, 8);
        // FIRST goes from q to r; SECOND comes to q and goes back by its LANE 0, not to r
        Seek.due(x, "MARKS off", x.when(3, 1, 1, 0), -1, 8);
        x.marks(true);
        Seek.due(x, "MARKS on", x.when(3, 1, 1, 0), 2, 0);
        x.shut(1, true);
        Seek.due(x, "the same town again", Seek.town(x, "place p;place q;place r;lane p to q;lane q to r;"), 3, 0);
        Seek.due(x, "no LANE is SHUT", x.distance(1, 2), 1, 0);
        Seek.due(x, "MARKS off", x.when(3, 1, 1, 0), -1, 8);
    }

    private static void fault() {
        Seek.says("Of the latest town() with STATUS 0 or 10, what 0: the FAULT (0 without one), 1: its place (NONE without)."
                + " NONE for others, and ahead of any.");
        TwoSeek x = new TwoSeek();
        faultIs(x, -1, -1);
        x.town(1);
        faultIs(x, -1, -1);
        x.town(0);
        faultIs(x, 0, -1);
        Seek.town(x, "?");
        faultIs(x, 1, 0);
        x.town(-1);
        faultIs(x, 1, 0);
        Seek.town(x, "cross;slow 5;");
        faultIs(x, 4, 11);
        Seek.feed(x, TWO);
        faultIs(x, 4, 11);
        x.town(99);
        faultIs(x, 4, 11);
        x.town(28);
        faultIs(x, 0, -1);
        x.town(1);
        faultIs(x, 0, -1);
    }

    private static void faultIs(TwoSeek x, int kind, int at) {
        Seek.due("what 0", x.fault(0), kind);
        Seek.due("what 1", x.fault(1), at);
        for (int what : new int[] {-1, 2, 3, Integer.MIN_VALUE, Integer.MAX_VALUE}) {
            Seek.due("what " + what, x.fault(what), -1);
        }
    }

    private static void many() {
        Seek.says("How many PLACES (what 0), LANES (1), WAYS (2) (5).");
        TwoSeek x = Seek.in(STAR);
        Seek.clock(x, true, 0);
        Seek.due(x, "PLACES", x.many(0), 8, 0);
        Seek.due(x, "LANES", x.many(1), 6, 0);
        Seek.due(x, "WAYS", x.many(2), 1, 0);
        x.shut(0, true);
        Seek.due(x, "SHUT ones, too", x.many(1), 6, 0);
        for (int what : new int[] {-1, 3, Integer.MIN_VALUE, Integer.MAX_VALUE}) {
            Seek.due(x, "what " + what, x.many(what), -1, 5);
        }
    }

    private static void place() {
        Seek.says("Of a PLACE, what 0: its SIGHT, 1: how many LANES, 2 to 5: to which PLACE its LANE 0 to 3 leads"
                + " (8: it has none such) (2; 5; 8).");
        TwoSeek x = Seek.in(STAR);
        int[] due = {0, 4, 1, 2, 3, 4};
        for (int round = 0; round < 2; round++) {
            for (int what = 0; what <= 5; what++) {
                Seek.due(x, "what " + what, x.place(0, what), due[what], 0);
            }
            Seek.due(x, "the third of three", x.place(1, 4), 3, 0);
            Seek.due(x, "a fourth of three", x.place(1, 5), -1, 8);
            Seek.due(x, "how many of none", x.place(7, 1), 0, 0);
            Seek.due(x, "the first of none", x.place(7, 2), -1, 8);
            // SHUT ones are LANES
            for (int lane = 0; lane < 6; lane++) {
                x.shut(lane, true);
            }
        }
        for (int what : new int[] {-1, 6, Integer.MIN_VALUE, Integer.MAX_VALUE}) {
            Seek.due(x, "what " + what, x.place(0, what), -1, 5);
            Seek.due(x, "what " + what + " where there is no LANE", x.place(7, what), -1, 5);
            Seek.due(x, "no PLACE and what " + what, x.place(8, what), -1, 2);
        }
        for (int p : new int[] {-1, 8, Integer.MIN_VALUE, Integer.MAX_VALUE}) {
            Seek.due(x, "PLACE " + p, x.place(p, 0), -1, 2);
        }
    }

    private static void shut() {
        Seek.says("A LANE is SHUT, or no more (2).");
        TwoSeek x = Seek.in(TWELVE);
        Seek.due(x, "the first", x.shut(0, true), true, 0);
        Seek.due(x, "the last", x.shut(11, true), true, 0);
        for (int lane : new int[] {-1, 12, Integer.MIN_VALUE, Integer.MAX_VALUE}) {
            Seek.due(x, "LANE " + lane, x.shut(lane, true), false, 2);
            Seek.due(x, "LANE " + lane, x.shut(lane, false), false, 2);
        }
        Seek.due(x, "the first is SHUT", x.distance(0, 1), 3, 0);
        Seek.due(x, "the last is SHUT", x.distance(3, 7), 3, 0);
        Seek.due(x, "an open one no more", x.shut(1, false), true, 0);
        Seek.due(x, "SHUT twice", x.shut(0, true), true, 0);
        Seek.due(x, "once no more", x.shut(0, false), true, 0);
        Seek.due(x, "the first is open", x.distance(0, 1), 1, 0);
        Seek.due(x, "the last is SHUT still", x.distance(3, 7), 3, 0);
        x.town(0);
        Seek.due(x, "there is none", x.shut(0, false), false, 2);
    }

    private static void distance() {
        Seek.says("DISTANCE (2; 8: no LANES lead there).");
        TwoSeek x = Seek.in(EIGHT + "lane a to b;lane b to c;lane c to d;lane d to e;lane e to f;lane f to g;lane g to h;");
        Seek.due(x, "the farthest", x.distance(0, 7), 7, 0);
        Seek.due(x, "and back", x.distance(7, 0), 7, 0);
        Seek.due(x, "to itself", x.distance(7, 7), 0, 0);
        x.shut(6, true);
        Seek.due(x, "no LANES lead there", x.distance(0, 7), -1, 8);
        Seek.due(x, "no LANES lead here", x.distance(7, 0), -1, 8);
        Seek.due(x, "to itself", x.distance(7, 7), 0, 0);
        Seek.due(x, "up to there", x.distance(0, 6), 6, 0);
        TwoSeek y = Seek.in(STAR);
        for (int b = 1; b <= 4; b++) {
            Seek.due(y, "by LANE " + (b - 1), y.distance(0, b), 1, 0);
            Seek.due(y, "by LANE 0 or so", y.distance(b, 0), 1, 0);
        }
        Seek.due(y, "by way of PLACE 0", y.distance(4, 1), 2, 0);
        Seek.due(y, "by way of PLACE 0 and another one", y.distance(4, 2), 2, 0);
        for (int p : new int[] {-1, 8, Integer.MIN_VALUE, Integer.MAX_VALUE}) {
            Seek.due(x, "from " + p, x.distance(p, 0), -1, 2);
            Seek.due(x, "to " + p, x.distance(0, p), -1, 2);
            Seek.due(x, "from " + p + " to it", x.distance(p, p), -1, 2);
        }
    }
}
