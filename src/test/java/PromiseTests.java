/** For each promise of the document runs of calls with the answers that its words ask for: ordinary ones, edges, wrong inputs. */
public final class PromiseTests {
    private static final int NOTHING = -1000000000;
    private static int checks = 0;
    private static int wrong = 0;
    private static int promise = 0;

    private static void is(String call, long got, long want) {
        checks++;
        if (got != want) {
            wrong++;
            System.out.println("promise " + promise + ": " + call + " answered " + got + ", due is " + want);
        }
    }
    private static void is(String call, boolean got, boolean want) {
        is(call, got ? 1 : 0, want ? 1 : 0);
    }

    // ---- a house and what to do with it

    private static final String HOUSE = "floor up desks 2 noise 3 cost 50;floor low desks 2 noise 1 cost 70;floor att desks 1 noise 9 cost 70;"
            + "team red;team blue;team none;"
            + "person ann team red days 2;person bob team red days 1;person cy team blue days 3;person dee team blue days 2;"
            + "cannot ann fri;cannot bob tue;likes ann mon 5;likes cy wed 9;likes cy wed 4;"
            + "tie ann bob 10;tie bob cy 7;tie cy dee 3;tie ann dee 10;"
            + "comes bob 50;comes cy 10;comes cy 80;visit tue 2 50;visit wed 9 100;visit wed 3 10;own dee low;"
            + "meet blue;meet blue;meet none;turns bob 1;turns cy 4;stand 7;stand 20;"
            + "worth many*10 when day=4;worth crew-1 when person<2;";

    private static int tell(DeskDays x, String text) {
        tape(x, text);
        return x.house();
    }
    /** Puts these bytes alone on the tape. */
    private static void tape(DeskDays x, String bytes) {
        x.end(0);
        StringBuilder all = new StringBuilder(bytes);
        while (all.length() % 20 != 0) all.append((char) 255);
        for (int at = 0; at < all.length(); at += 20) {
            int[] n = new int[5];
            for (int k = 0; k < 20; k++) n[k / 4] = (n[k / 4] << 8) | all.charAt(at + k);
            x.feed(n[0], n[1], n[2], n[3], n[4]);
        }
        x.end(bytes.length());
    }
    private static String bytes(int... all) {
        StringBuilder s = new StringBuilder();
        for (int b : all) s.append((char) b);
        return s.toString();
    }
    private static DeskDays told(String text) {
        DeskDays x = new DeskDays();
        if (tell(x, text) < 0) is("house() of " + text + ", place " + x.fault(1), x.fault(0), 0);
        return x;
    }
    /** The house above with a plan: ann mon tue, bob mon, cy mon wed fri, dee mon fri. */
    private static DeskDays planned() {
        DeskDays x = told(HOUSE);
        x.put(0, 3);
        x.put(1, 1);
        x.put(2, 21);
        x.put(3, 17);
        return x;
    }
    private static void sets(DeskDays x, String call, int... want) {
        for (int p = 0; p < want.length; p++) is(call + ": set of " + p, x.person(p, 6), want[p]);
    }
    /** So many persons pa, pb, .. of team t with so many days each, behind a floor of so many desks. */
    private static String crowd(int desks, int... days) {
        StringBuilder s = new StringBuilder("floor f desks " + desks + " noise 0 cost 0;team t;");
        for (int p = 0; p < days.length; p++) s.append("person p").append((char) ('a' + p)).append(" team t days ").append(days[p]).append(';');
        return s.toString();
    }
    private static String times(int n, String s) {
        return s.repeat(n);
    }

    // ---- promises 1 to 9

    private static void aNewObject() {
        DeskDays x = new DeskDays();
        for (int what = 0; what <= 8; what++) is("has " + what, x.has(what), what == 7 ? 50 : 0);
        is("NONE", DeskDays.NONE, -1);
        is("person", x.person(0, 0), -1);
        is("floor", x.floor(0, 0), -1);
        is("letter", x.letter(2, 0, 0), -1);
        is("worth", x.worth(), 0);
        is("judge", x.judge(0), 0);
        is("day", x.day(0, 0), 0);
        is("stairs", x.stairs(4), 0);
        is("shut", x.shut(0), -1);
        is("weeks", x.weeks(), 1);
        is("grow(0)", x.grow(0), 1);
        is("grow(1)", x.grow(1), 0);
        is("fewest", x.fewest(), 0);
        is("seek", x.seek(), 1);
        is("spent", x.spent(), 0);
        is("better", x.better(1), 0);
        is("free", x.free(1), 1);
        for (int what = 0; what < 6; what++) is("status", x.status(what), 0);
    }

    private static void feed() {
        DeskDays x = new DeskDays();
        is("feed", x.feed(0x7465616d, 0x20617a3b, 0x20202020, 0x0a0a0a0a, 0x20202020), 20);
        is("house", x.house(), 1);
        is("letter", x.letter(1, 0, 0), 'a');
        is("letter", x.letter(1, 0, 1), 'z');
        is("feed behind", x.feed(-1, 0, 0, 0, 0), 20);
        is("house", x.house(), -1);
        is("place of byte 255", x.fault(1), 0);
        x.end(0);
        for (int k = 1; k <= 90; k++) is("feed " + k, x.feed(0x20202020, 0x20202020, 0x20202020, 0x20202020, 0x20202020), 20 * k);
        is("feed above 1800", x.feed(0, 0, 0, 0, 0), -1);
        is("status", x.status(0), 1);
        is("nothing done", x.end(1801), false);
        is("all there", x.end(1800), true);
        is("house of blanks", x.house(), 0);
        is("feed anew", x.feed(0, 0, 0, 0, 0), 20);
        x.end(1);
        for (int k = 0; k < 89; k++) x.feed(0, 0, 0, 0, 0);
        is("1781 and 20", x.feed(0, 0, 0, 0, 0), -1);
        x.end(1780);
        is("1780 and 20", x.feed(0, 0, 0, 0, 0), 1800);
    }

    private static void end() {
        DeskDays x = new DeskDays();
        is("end(0)", x.end(0), true);
        is("end(1)", x.end(1), false);
        is("end(-1)", x.end(-1), false);
        x.feed(0x7465616d, 0x20617a3b, 0, 0, 0);
        is("end(21)", x.end(21), false);
        is("end(20)", x.end(20), true);
        is("end(least)", x.end(Integer.MIN_VALUE), false);
        is("status", x.status(0), 4);
        is("end(8)", x.end(8), true);
        is("end(9)", x.end(9), false);
        is("house", x.house(), 1);
        is("the tape went", x.end(1), false);
    }

    private static void house() {
        DeskDays x = new DeskDays();
        is("empty", x.house(), 0);
        is("house", tell(x, HOUSE), HOUSE.chars().filter(c -> c == ';').count());
        is("the tape went", x.end(1), false);
        x.put(0, 3);
        x.seed(99);
        String wrongText = "team t; team t;";
        is("fault", tell(x, wrongText), -1);
        is("the tape went with a fault", x.end(1), false);
        is("persons stay", x.has(2), 4);
        is("the plan stays", x.person(0, 6), 3);
        is("rules stay", x.has(6), 2);
        is("refusals", x.status(1), 1);
        is("fault again", tell(x, wrongText), -1);
        is("refusals", x.status(1), 2);
        is("what is fed comes first", x.feed(0x7465616d, 0x20743b20, 0x20202020, 0x20202020, 0x20202020), 20);
        is("what is fed is told alone", x.house(), 1);
        is("no persons now", x.has(2), 0);
        is("house anew", tell(x, "team t;person p team t days 1;person q team t days 1;visit mon 9 50;"), 4);
        is("the plan is empty", x.person(0, 6), 0);
        for (int what = 0; what <= 8; what++) is("has " + what, x.has(what), new int[] {0, 1, 2, 0, 0, 0, 0, 50, 0}[what]);
        is("comes anew", x.person(1, 3), 100);
        is("own anew", x.person(1, 4), -1);
        is("turns anew", x.person(1, 5), 0);
        is("cannot anew", x.person(1, 2), 0);
        is("visitors anew", x.day(1, 2), 0);
        is("visitors anew", tell(x, "team t;person p team t days 1;likes p mon 3;visit mon 4 100;meet t;"), 5);
        is("house anew", tell(x, "team t;person p team t days 1;person q team t days 1;"), 3);
        is("house anew", tell(x, "team t;person p team t days 1;person q team t days 1;"), 3);
        is("visitors anew", x.day(0, 2), 0);
        is("meet anew", x.has(8), 0);
        x.put(0, 31);
        is("likes, ties and rules anew", x.worth(), 0);
        is("refusals stay", x.status(1), 2);
        DeskDays y = told("team t;visit mon 9 50;");
        y.seed(99);
        tell(x, "visit mon 9 50;");
        is("the seed stays", x.draw(0), y.draw(0));
        is("blanks", tell(x, "\n team\na\n;\n\nteam b ;"), 2);
        is("none between signs", tell(x, "team a;person b team a days 1;worth(1+2)when[many=1]or not[all];"), 3);
        is("a later one counts", x.has(6), 1);
        is("a house of 1800 bytes", tell(x, times(1792, " ") + "team ab;"), 1);
    }

    private static void faulty(String text, int kind, int place) {
        DeskDays x = new DeskDays();
        is("house of " + text, tell(x, text), -1);
        is("fault of " + text, x.fault(0), kind);
        is("place in " + text, x.fault(1), place);
    }
    /** The fault stands where the mark is in the text. */
    private static void marked(int kind, String text) {
        int place = text.indexOf('^');
        faulty(text.substring(0, place) + text.substring(place + 1), kind, place);
    }

    private static void fault() {
        DeskDays x = new DeskDays();
        is("ahead of any", x.fault(0), 0);
        is("ahead of any", x.fault(1), -1);
        is("another", x.fault(2), -1);
        is("another", x.fault(-1), -1);
        tell(x, "team a;team a;");
        is("fault", x.fault(0), 2);
        is("place", x.fault(1), 12);
        tell(x, "team a;");
        is("fault", x.fault(0), 0);
        is("place", x.fault(1), -1);
        wrongBytes();
        wrongNames();
        wrongNumbers();
        tooMany();
    }

    private static void wrongBytes() {
        marked(1, "^;");
        marked(1, "team a^");
        marked(1, "team a ^team b;");
        marked(1, "team a \n^");
        marked(1, "team^");
        marked(1, "team ^;");
        marked(1, "^tea");
        marked(1, "^teams a;");
        marked(1, "^desks a;");
        marked(1, "^a;");
        marked(1, "^7;");
        marked(1, "team a;^;");
        marked(1, "team abcdef^g;");
        marked(1, "team abcdef^ghij");
        marked(1, "person^x a;");
        marked(1, "team a^1;");
        marked(1, "team ^1;");
        marked(1, "team 1234^5;");
        marked(1, "team ^A;");
        marked(1, "team a^A;");
        marked(1, "^\t");
        marked(1, "^#");
        marked(1, "^" + (char) 233);
        marked(1, "^" + (char) 0);
        marked(1, "team ^mon;");
        marked(1, "team ^max;");
        marked(1, "floor ^floor desks 1 noise 1 cost 1;");
        marked(1, "floor a ^noise 1 desks 1 cost 1;");
        marked(1, "floor a desks^1 noise 1 cost 1;");
        marked(1, "floor a desks 1^noise 1 cost 1;");
        marked(1, "floor a desks ^- 1");
        marked(1, "floor a desks 1 noise 1 cost ^;");
        marked(1, "floor a desks 1 noise 1 cost 1 ^2;");
        marked(1, "floor a desks 1 noise 1 cost 1 abcdef^g;");
        marked(1, "floor a desks 1 noise 1 cost 0000^0;");
        marked(1, "team t;person p team t days 1;cannot p ^p;");
        marked(1, "team t;person p team t days 1;cannot p ^day;");
        marked(1, "team t;person p team t days 1;cannot ^all mon;");
        marked(1, "team t;person p team t days 1;cannot p mon^2;");
        marked(1, "visit ^2 mon 3;");
        marked(1, "visit mon 2^;");
        marked(1, "stand 5^x;");
        marked(1, "worth ^;");
        marked(1, "worth 1^;");
        marked(1, "worth 1 when ^;");
        marked(1, "worth 1 when 1^;");
        marked(1, "worth ^-1 when all;");
        marked(1, "worth 1 when all^=1;");
        marked(1, "worth 1 when 1<^=1;");
        marked(1, "worth 1 when (1^<2);");
        marked(1, "worth ^[1] when all;");
        marked(1, "worth 1 when [1^] = 1;");
        marked(1, "worth 1 when [all^);");
        marked(1, "worth (1^] when all;");
        marked(1, "worth min^1,2) when all;");
        marked(1, "worth min(1^) when all;");
        marked(1, "worth max(1,2^,3) when all;");
        marked(1, "worth 1 when not^");
        marked(1, "worth 1 when all ^not all;");
        marked(1, "worth 1 when all and^;");
        marked(1, "worth ^desks when all;");
        marked(1, "worth ^a when all;");
        marked(1, "worth 1 ^if all;");
        marked(1, "worth 1^when all;");
        marked(1, "worth 1 when all^");
    }

    private static void wrongNames() {
        String two = "floor f desks 1 noise 0 cost 0;team t;person p team t days 1;person q team t days 1;";
        marked(2, two + "team ^t;");
        marked(2, two + "team ^p;");
        marked(2, two + "team ^f");
        marked(2, two + "floor ^p desks 99;");
        marked(2, two + "person ^f team x days 9;");
        marked(2, two + "person ^t");
        marked(3, two + "person x team ^x days 1;");
        marked(3, two + "person x team ^p days 1;");
        marked(3, two + "cannot ^t mon;");
        marked(3, two + "cannot ^pp mon;");
        marked(3, two + "likes ^f fri 100;");
        marked(3, two + "comes ^x 101;");
        marked(3, two + "turns ^x 5;");
        marked(3, two + "tie p ^p 1;");
        marked(3, two + "tie ^t p 1;");
        marked(3, two + "tie p ^x1;");
        marked(3, two + "meet ^p;");
        marked(3, two + "meet ^f;");
        marked(3, two + "own ^f f;");
        marked(3, two + "own p ^q;");
        marked(3, two + "own p f;own ^p f;");
        marked(3, two + "own p f;own q ^f;");
        marked(3, two + "floor g desks 0 noise 0 cost 0;own p ^g;");
        marked(3, "meet ^t;team t;");
        is("names of six letters", told("team abcdef;team abcdeg;").has(1), 2);
    }

    private static void wrongNumbers() {
        String one = "floor f desks 1 noise 0 cost 0;team t;person p team t days 1;person q team t days 1;";
        marked(4, "floor f desks ^21 noise 100");
        marked(4, "floor f desks 20 noise ^100 cost 0;");
        marked(4, "floor f desks 20 noise 99 cost ^1000;");
        marked(4, "floor f desks ^9999x");
        marked(4, "team t;person p team t days ^6;");
        marked(4, one + "likes p mon ^100;");
        marked(4, one + "tie p q ^100;");
        marked(4, one + "comes p ^101;");
        marked(4, one + "visit mon ^10 5;");
        marked(4, one + "visit mon 9 ^101;");
        marked(4, one + "turns p ^5;");
        marked(4, one + "stand ^1000;");
        told("floor f desks 0020 noise 0099 cost 0999;team t;person p team t days 0005;person q team t days 0;likes p mon 99;tie p q 99;"
            + "comes p 100;visit mon 9 100;turns p 4;stand 999;worth 9999 when 9999=9999;");
    }

    private static void tooMany() {
        StringBuilder five = new StringBuilder();
        for (char c = 'a'; c <= 'e'; c++) five.append("floor f").append(c).append(" desks 20 noise 0 cost 0;");
        is("five floors", told(five.toString()).has(4), 100);
        marked(5, five + "^floor fa");
        marked(5, five + "^floor ;");
        StringBuilder six = new StringBuilder();
        for (char c = 'a'; c <= 'f'; c++) six.append("team t").append(c).append(";");
        told(six.toString());
        marked(5, six + "^team ta;");
        String twelve = crowd(1, 1, 1, 1, 1, 1, 1, 1, 1, 1, 1, 1, 1);
        told(twelve);
        marked(5, twelve + " ^person x team t days 1;");
        String ties = crowd(1, 1, 1) + times(15, "tie pa pb 1;tie pb pa 2;");
        is("thirty ties", told(ties).has(3), 30);
        marked(5, ties + "^tie pa pa 1;");
        String rules = times(12, "worth 1 when all;");
        is("twelve rules", told(rules).has(6), 12);
        marked(5, rules + "^worth x;");
        told("worth " + times(8, "(") + "1" + times(8, ")") + " when " + times(8, "[") + "all" + times(8, "]") + ";");
        marked(5, "worth " + times(8, "(") + "^(1;");
        marked(5, "worth 1 when " + times(8, "[") + "^[");
        marked(5, "worth 1 when [[[[((((min^(1,2)))))=1]]]];");
        marked(5, "worth max(max(max(max(max(max(max(max(1,max^(1,1)");
        told("worth max(1,max(2,max(3,max(4,max(5,max(6,max(7,max(8,9)))))))) when all;");
        told("worth max(max(max(max(max(max(max(max(9,8),7),6),5),4),3),2),1) when all;");
        marked(1, "worth " + times(8, "(") + "^[");
        marked(1, "worth 1 when " + times(8, "[") + "min ^1");
        is("open one after the other", told("worth " + times(20, "(1)+") + "1 when all;").has(6), 1);
        is("many a not", told("worth 1 when " + times(440, "not ") + "all;").has(6), 1);
    }

    private static void has() {
        DeskDays x = told(HOUSE);
        int[] all = {3, 3, 4, 4, 5, 1, 2, 20, 2};
        for (int what = 0; what < all.length; what++) is("has " + what, x.has(what), all[what]);
        is("meet of the first team", told("team a;team b;meet a;").has(8), 1);
        is("has 9", x.has(9), -1);
        is("has -1", x.has(-1), -1);
        is("has least", x.has(Integer.MIN_VALUE), -1);
    }

    private static void letter() {
        DeskDays x = told(HOUSE + "team abcdef;");
        String[][] names = {{"up", "low", "att"}, {"red", "blue", "none", "abcdef"}, {"ann", "bob", "cy", "dee"}};
        for (int kind = 0; kind < 3; kind++) {
            for (int which = 0; which < names[kind].length; which++) {
                String name = names[kind][which];
                for (int k = 0; k < name.length(); k++) is("letter of " + name, x.letter(kind, which, k), name.charAt(k));
                is("behind " + name, x.letter(kind, which, name.length()), -1);
                is("ahead of " + name, x.letter(kind, which, -1), -1);
            }
            is("no such", x.letter(kind, names[kind].length, 0), -1);
            is("no such", x.letter(kind, -1, 0), -1);
        }
        is("kind 3", x.letter(3, 0, 0), -1);
        is("kind -1", x.letter(-1, 0, 0), -1);
        is("far", x.letter(0, 0, Integer.MAX_VALUE), -1);
    }

    private static void person() {
        DeskDays x = planned();
        int[][] due = {{0, 2, 16, 100, -1, 0, 3, 6}, {0, 1, 2, 50, -1, 1, 1, 4}, {1, 3, 0, 80, -1, 4, 21, 10}, {1, 2, 0, 100, 1, 0, 17, 10}};
        for (int p = 0; p < 4; p++) for (int what = 0; what < 8; what++) is("person " + p + " " + what, x.person(p, what), due[p][what]);
        is("other", x.person(0, 8), -1);
        is("other", x.person(0, -1), -1);
        is("no such", x.person(4, 1), -1);
        is("no such", x.person(-1, 1), -1);
        DeskDays y = told(crowd(0, 0, 5, 5) + "cannot pc wed;cannot pc wed;");
        is("days 0", y.person(0, 7), 1);
        is("days 5", y.person(1, 7), 1);
        is("none suits", y.person(2, 7), 0);
    }

    private static void floor() {
        DeskDays x = told(HOUSE);
        int[][] due = {{2, 3, 50, 0}, {2, 1, 70, 1}, {1, 9, 70, 0}};
        for (int f = 0; f < 3; f++) for (int what = 0; what < 4; what++) is("floor", x.floor(f, what), due[f][what]);
        is("other", x.floor(0, 4), -1);
        is("other", x.floor(0, -1), -1);
        is("no such", x.floor(3, 0), -1);
        is("no such", x.floor(-1, 0), -1);
    }

    // ---- promises 10 to 15: the plan

    private static void put() {
        DeskDays x = told(HOUSE);
        is("put", x.put(3, 31), true);
        is("put", x.put(0, 0), true);
        is("set above 31", x.put(3, 32), false);
        is("set below 0", x.put(3, -1), false);
        is("no such", x.put(4, 1), false);
        is("no such", x.put(-1, 1), false);
        is("status", x.status(2), 4);
        sets(x, "put", 0, 0, 0, 31);
    }

    private static void row() {
        DeskDays x = told(HOUSE);
        tape(x, bytes(1, 2, 31, 0));
        is("row", x.row(), true);
        sets(x, "row", 1, 2, 31, 0);
        is("the tape went", x.end(1), false);
        is("an empty one", x.row(), false);
        tape(x, bytes(1, 1, 1));
        is("too short", x.row(), false);
        tape(x, bytes(1, 1, 1, 1, 1));
        is("too long", x.row(), false);
        tape(x, bytes(1, 1, 1, 32));
        is("not a set", x.row(), false);
        is("nothing done to the tape", x.end(4), true);
        is("nothing done to the tape", x.feed(0, 0, 0, 0, 0), 24);
        tape(x, bytes(255, 1, 1, 1));
        is("not a set", x.row(), false);
        sets(x, "refused", 1, 2, 31, 0);
        is("status", x.status(2), 5);
        is("of nobody", new DeskDays().row(), true);
    }

    private static void day() {
        DeskDays x = told(crowd(3, 1, 1, 1, 1) + "own pb f;visit fri 4 1;");
        for (int p = 0; p < 4; p++) x.put(p, p == 3 ? 18 : 2);
        is("in", x.day(1, 0), 4);
        is("stand", x.day(1, 1), 1);
        is("in", x.day(4, 0), 1);
        is("stand", x.day(4, 1), 0);
        is("visitors", x.day(4, 2), 4);
        is("visitors", x.day(1, 2), 0);
        x.put(1, 0);
        is("an own desk stays empty", x.day(1, 1), 1);
        x.put(0, 0);
        is("as many as desks", x.day(1, 1), 0);
        is("other", x.day(1, 3), -1);
        is("other", x.day(1, -1), -1);
        is("no such", x.day(5, 0), -1);
        is("no such", x.day(-1, 0), -1);
    }

    private static void met() {
        DeskDays x = planned();
        int[] due = {1, 1, 2, 1};
        for (int k = 0; k < 4; k++) is("met " + k, x.met(k), due[k]);
        is("no such", x.met(4), -1);
        is("no such", x.met(-1), -1);
        x.put(2, 31);
        x.put(3, 31);
        is("all days", x.met(2), 5);
    }

    private static void judged(DeskDays x, int kind, int which, int day) {
        is("judge(0)", x.judge(0), kind);
        is("judge(1)", x.judge(1), which);
        is("judge(2)", x.judge(2), day);
    }

    private static void judge() {
        DeskDays x = planned();
        judged(x, 0, -1, -1);
        is("another", x.judge(3), -1);
        is("another", x.judge(-1), -1);
        x.put(1, 3);
        x.put(0, 24);
        judged(x, 1, 0, 4);
        DeskDays several = told(crowd(9, 1, 3) + "cannot pb thu;cannot pb mon;cannot pb fri;");
        several.put(1, 31);
        judged(several, 1, 1, 0);
        several.put(1, 30);
        judged(several, 1, 1, 3);
        x.put(0, 3);
        judged(x, 1, 1, 1);
        x.put(1, 9);
        judged(x, 2, 1, -1);
        x.put(1, 1);
        x.put(2, 14);
        judged(x, 4, 1, -1);
        x.put(2, 0);
        judged(x, 2, 2, -1);
        x.put(2, 21);
        x.put(0, 0);
        judged(x, 2, 0, -1);
        DeskDays y = told(crowd(2, 1, 1, 1, 1) + "meet t;");
        for (int p = 0; p < 4; p++) y.put(p, p < 3 ? 4 : 1);
        judged(y, 3, 2, -1);
        y.put(2, 1);
        judged(y, 4, 0, -1);
        DeskDays z = told(crowd(1, 0) + "meet t;");
        judged(z, 4, 0, -1);
    }

    private static int worthOf(String sum) {
        DeskDays x = told(crowd(17, 1) + "worth " + sum + " when all;");
        x.put(0, 1);
        return x.worth();
    }
    private static boolean holds(String test) {
        DeskDays x = told("floor f desks 3 noise 0 cost 0;team s;team t;person p team s days 1;person q team t days 1;worth 1 when "
            + test + " and person=1;");
        x.put(0, 4);
        x.put(1, 4);
        return x.worth() == 1;
    }

    private static void worth() {
        DeskDays x = planned();
        is("worth", x.worth(), 10 + 7 + 6 + 10 + 5 + 4 + 20 + 20 - 3);
        x.put(3, 16);
        is("less", x.worth(), 10 + 7 + 3 + 0 + 5 + 4 + 20 + 20 - 3);
        String[][] sums = {{"7/2", "3"}, {"(0-7)/2", "-4"}, {"7/(0-2)", "-4"}, {"(0-7)%2", "1"}, {"7%(0-2)", "-1"}, {"(0-6)%(0-4)", "-2"},
            {"5/0", "0"}, {"5%0", "0"}, {"(0-5)/(many-1)", "0"}, {"2+3*4", "14"}, {"(2+3)*4", "20"}, {"10-3-2", "5"}, {"100/7/2", "7"}, {"2*7%4", "2"},
            {"9999*9999", "1000000"}, {"9999*9999-1", "999999"}, {"0-9999*9999", "-1000000"}, {"0-9999*9999-9", "-1000000"},
            {"(0-9999)*9999*9999", "-1000000"}, {"(0-9999)*9999*(0-9999)", "1000000"}, {"9999*9999/9999", "100"}, {"1000*1000+1-1", "999999"},
            {"min(3,max(1,2))", "2"}, {"max(0-1,0-2)", "-1"}, {"min ( 1 , 1 )", "1"}, {"room", "17"}, {"many", "1"}, {"day+person+crew", "0"}, {"0007", "7"}};
        for (String[] one : sums) is("worth of " + one[0], worthOf(one[0]), Integer.parseInt(one[1]));
        String[] hold = {"all", "1<2", "2>1", "2=2", "day=2", "crew=1", "many=2", "room=3", "not 1=2", "not not all", "[1=2 or all]", "not [1=2]",
            "not 1=2 and all", "1+1=2", "0<1"};
        for (String test : hold) is("test " + test, holds(test), true);
        String[] fail = {"not all", "2<2", "2>2", "1=2", "not not not all", "[all and 1=2]", "not [1=2 or all]"};
        for (String test : fail) is("test " + test, holds(test), false);
        is("and binds more than or", holds("[all or all and 1=2]"), true);
        is("and binds more than or", holds("[1=2 and all or all]"), true);
        DeskDays y = told(crowd(9, 5, 1) + "worth 1 when day=1 or day=2;worth 100 when day<3 and person=0;worth many*1000 when all;");
        y.put(0, 31);
        y.put(1, 16);
        is("the first rule counts", y.worth(), 100 + 1 + 1 + 1000 + 2000 + 2000);
    }

    // ---- promises 16 to 23: sought, bettered

    private static void seek() {
        DeskDays x = told(crowd(1, 1, 2));
        is("seek", x.seek(), 1);
        sets(x, "seek", 1, 6);
        is("spent", x.spent(), 1 + 3);
        x = told(crowd(1, 1, 2) + "cannot pb tue;own pa f;");
        is("no desk left", x.seek(), 0);
        sets(x, "stays", 0, 0);
        x = told(crowd(2, 1, 2, 3) + "own pb f;");
        x.put(0, 7);
        is("an own desk takes none", x.seek(), 1);
        sets(x, "seek", 1, 3, 14);
        x = told(crowd(1, 3, 3));
        x.put(1, 9);
        is("none", x.seek(), 0);
        is("all looked at", x.spent(), 10 + 100);
        sets(x, "stays", 0, 9);
        x = told(crowd(2, 1, 1, 1) + "meet t;");
        is("all of a team", x.seek(), 0);
        is("looked at", x.spent(), 5 + 25 + (25 - 5) * 5 + 5 * 5);
        x = told(crowd(3, 1, 1, 1) + "meet t;cannot pa mon;cannot pc tue;");
        is("the team's day", x.seek(), 1);
        sets(x, "seek", 4, 4, 4);
        x = told(crowd(6, 2, 2, 2, 2, 2, 2, 2, 2, 2, 2) + "person x team t days 5;person y team t days 5;cannot y mon;");
        is("given up ahead of it, or none", x.seek(), -2);
        is("looked at", x.spent(), 20000);
        is("status", x.status(3), 0);
        x = told(crowd(0, 0, 0));
        is("no days", x.seek(), 1);
        is("looked at", x.spent(), 2);
    }

    private static void spent() {
        DeskDays x = told(crowd(2, 1, 1));
        is("ahead of any", x.spent(), 0);
        x.seek();
        is("of seek", x.spent(), 2);
        is("fewest", x.fewest(), 1);
        is("of fewest, its last number", x.spent(), 1 + 2);
        x.better(9);
        is("stays", x.spent(), 3);
        tell(x, "team t;");
        is("of the latest one", x.spent(), 3);
        x.seek();
        is("of nobody", x.spent(), 0);
    }

    private static void fewest() {
        is("fewest", told(crowd(0, 5, 1, 4)).fewest(), 2);
        is("of nobody", new DeskDays().fewest(), 0);
        DeskDays x = told(crowd(1, 5, 5, 5) + "own pb f;");
        x.put(0, 9);
        is("beside own ones", x.fewest(), 2);
        is("spent", x.spent(), 3);
        sets(x, "the plan stays", 9, 0, 0);
        is("none", told(crowd(1, 1, 5) + "cannot pb mon;").fewest(), -1);
        x = told(crowd(9, 2, 2, 2, 2, 2, 2, 2, 2, 2, 2, 5) + "cannot pk mon;");
        is("given up", x.fewest(), -2);
        is("spent", x.spent(), 20000);
        x = told(crowd(9, 1, 0) + "cannot pa mon;cannot pa tue;cannot pa wed;cannot pa thu;cannot pa fri;");
        is("none can", x.fewest(), -1);
        is("spent", x.spent(), 0);
        is("twelve", told(crowd(0, 5, 5, 5, 5, 5, 5, 5, 5, 5, 5, 5, 5)).fewest(), 12);
    }

    private static void better() {
        String text = crowd(2, 1, 1, 1) + "tie pa pb 5;likes pa wed 9;likes pc fri 1;";
        DeskDays x = told(text);
        is("does not hold", x.better(10), -1);
        x.put(0, 1);
        x.put(1, 2);
        x.put(2, 4);
        is("tries 0", x.better(0), -1);
        is("tries 2001", x.better(2001), -1);
        is("status", x.status(3), 3);
        is("one try", x.better(1), 1);
        sets(x, "one done", 2, 2, 4);
        // pa on mon is not better, on wed it is: 9 above 5
        is("two more tries", x.better(2), 1);
        sets(x, "wed", 4, 2, 4);
        // wed is full for pb till pc has gone to fri
        is("at last", x.better(2000), 2);
        sets(x, "all", 4, 4, 16);
        is("worth", x.worth(), 15);
        is("none left", x.better(2000), 0);
        is("status", x.status(3), 3);
        x = told(crowd(3, 1) + "likes pa mon 1;");
        x.put(0, 2);
        is("to mon", x.better(1), 1);
        x = told(crowd(3, 1, 1) + "likes pb wed 1;tie pa pb 2;");
        x.put(0, 1);
        x.put(1, 2);
        is("pa to tue, pb stays", x.better(2000), 1);
        // pb goes to fri with the 8th, then it begins anew: pa mon to thu (4), pb again (4), pc to tue with the next
        x = told(crowd(3, 1, 1, 1) + "likes pb fri 1;likes pc tue 1;");
        for (int p = 0; p < 3; p++) x.put(p, 1);
        is("7 tries", x.better(7), 0);
        is("16 tries", x.better(8 + 8), 1);
        sets(x, "pb", 1, 16, 1);
        x.put(1, 1);
        is("17 tries", x.better(8 + 8 + 1), 2);
        sets(x, "pb, pc", 1, 16, 2);
    }

    private static void both() {
        DeskDays x = told(crowd(2, 1, 1, 1) + "tie pa pb 5;likes pa wed 9;likes pc wed 1;");
        x.put(2, 4);
        is("both", x.both(1, 0), 10);
        sets(x, "the first such", 4, 1, 4);
        is("both", x.both(0, 2), 10);
        sets(x, "like ones: the first one's set first", 4, 1, 4);
        is("both", x.both(1, 2), 14);
        sets(x, "both", 4, 4, 1);
        is("the same", x.both(1, 1), NOTHING);
        is("no such", x.both(0, 3), NOTHING);
        is("no such", x.both(-1, 0), NOTHING);
        is("status", x.status(3), 3);
        x.put(2, 3);
        is("none holds", x.both(0, 1), NOTHING);
        is("no refusal", x.status(3), 3);
        sets(x, "stays", 4, 4, 3);
        x = told(crowd(2, 1, 1) + "worth 0-5 when all;");
        is("below 0", x.both(0, 1), -10);
        sets(x, "first", 1, 1);
    }

    private static void trade() {
        DeskDays x = told(crowd(2, 1, 1, 2) + "tie pa pc 5;likes pa wed 9;cannot pb fri;");
        x.put(0, 1);
        x.put(1, 4);
        x.put(2, 3);
        is("trade", x.trade(0, 1), 9 - 5);
        is("trade", x.trade(1, 0), 9 - 5);
        sets(x, "stays", 1, 4, 3);
        is("would not suit", x.trade(0, 2), NOTHING);
        x.put(0, 16);
        is("cannot", x.trade(0, 1), NOTHING);
        x.put(0, 1);
        x.put(1, 1);
        is("would not hold", x.trade(0, 1), NOTHING);
        is("the same", x.trade(1, 1), NOTHING);
        is("no such", x.trade(0, 3), NOTHING);
        is("no such", x.trade(-1, 0), NOTHING);
        is("status", x.status(3), 0);
        x.put(2, 6);
        is("nothing more", x.trade(0, 1), 0);
        x.put(0, 4);
        x.put(1, 1);
        is("less", x.trade(0, 1), -9 - 5);
    }

    private static void should() {
        DeskDays x = told(crowd(9, 1, 1, 1, 1, 1) + "tie pa pb 5;tie pb pc 8;tie pc pa 8;tie pa pb 0;");
        is("without days: the first of like ones", x.should(0), 1);
        is("all", x.should(1), 4);
        is("persons with ties", x.should(2), 3);
        is("the first one", told(crowd(9, 1, 1) + "tie pa pb 8;tie pa pb 8;").should(0), 0);
        DeskDays y = told(crowd(9, 1, 1, 1) + "tie pa pb 1;tie pb pc 1;tie pc pa 1;");
        y.put(0, 1);
        y.put(1, 1);
        is("pc alone", y.should(2), 1);
        x.put(1, 3);
        x.put(2, 2);
        is("greatest", x.should(0), 2);
        is("met on none", x.should(1), 3);
        is("persons", x.should(2), 1);
        x.put(0, 3);
        is("none left", x.should(0), -1);
        is("none left", x.should(1), 0);
        is("none left", x.should(2), 0);
        is("other", x.should(3), -1);
        is("other", x.should(-1), -1);
        is("no ties", told(crowd(1, 1)).should(0), -1);
    }

    private static void bound() {
        DeskDays x = planned();
        is("bound", x.bound(false), 10 + 7 + 3 * 2 + 10 * 2);
        is("gap", x.bound(true), 43 - (10 + 7 + 6 + 10));
        x = told(crowd(9, 4, 5) + "tie pa pb 3;cannot pa mon;cannot pb mon;cannot pb tue;cannot pa fri;");
        is("days that neither cannot", x.bound(false), 3 * 2);
        x.put(0, 31);
        x.put(1, 31);
        is("below 0", x.bound(true), 6 - 15);
        is("no ties", new DeskDays().bound(true), 0);
    }

    // ---- promises 24 to 29: chances

    private static void likely() {
        DeskDays x = planned();
        long all = 1000000000000L;
        is("more than 0 on mon", x.likely(0, 0), all);
        is("more than 2", x.likely(0, 2), 900000000000L);
        is("more than 3", x.likely(0, 3), 400000000000L);
        is("more than 4", x.likely(0, 4), 0);
        is("visitors", x.likely(1, 1), 750000000000L);
        is("visitors", x.likely(1, 2), 250000000000L);
        is("nobody", x.likely(3, 0), 0);
        is("n 30", x.likely(0, 30), 0);
        is("n 31", x.likely(0, 31), -1);
        is("n -1", x.likely(0, -1), -1);
        is("no such", x.likely(5, 0), -1);
        is("no such", x.likely(-1, 0), -1);
        DeskDays y = told("visit mon 9 1;visit tue 7 33;");
        is("each step down", y.likely(0, 6), 0);
        long[] q = {all, 0, 0, 0, 0, 0, 0, 0};
        for (int v = 0; v < 7; v++) for (int j = 7; j >= 0; j--) q[j] = (q[j] * 67 + (j > 0 ? q[j - 1] * 33 : 0)) / 100;
        is("each step down", y.likely(1, 3), q[4] + q[5] + q[6] + q[7]);
    }

    private static void enough() {
        DeskDays x = planned();
        is("0 of 100", x.enough(0, 0), 4);
        is("39", x.enough(0, 39), 4);
        is("40", x.enough(0, 40), 3);
        is("89", x.enough(0, 89), 3);
        is("90", x.enough(0, 90), 2);
        is("99", x.enough(0, 99), 2);
        is("100", x.enough(0, 100), 0);
        is("nobody", x.enough(3, 0), 0);
        is("no such part", x.enough(0, 101), -1);
        is("no such part", x.enough(0, -1), -1);
        is("no such", x.enough(5, 5), -1);
        is("no such", x.enough(-1, 5), -1);
    }

    private static void over() {
        DeskDays x = new DeskDays();
        is("all come", x.over(100, 7, 99), 7);
        is("all come", x.over(100, 7, 100), 40);
        is("nobody comes", x.over(0, 0, 0), 40);
        is("half", x.over(50, 1, 24), 1);
        is("half", x.over(50, 1, 25), 2);
        is("half", x.over(50, 1, 49), 2);
        is("half", x.over(50, 1, 50), 3);
        is("none", x.over(50, 0, 49), 0);
        is("none", x.over(50, 0, 50), 1);
        is("40 desks", x.over(99, 40, 0), 40);
        is("so small that it is 0 of 10 to the 12", x.over(1, 6, 0), 10);
        is("n 41", x.over(50, 41, 5), -1);
        is("n -1", x.over(50, -1, 5), -1);
        is("comes 101", x.over(101, 5, 5), -1);
        is("comes -1", x.over(-1, 5, 5), -1);
        is("part 101", x.over(5, 5, 101), -1);
        is("part -1", x.over(5, 5, -1), -1);
    }

    private static void stairs() {
        DeskDays x = told(crowd(2, 1, 1, 1, 1) + "comes pb 50;visit mon 1 25;own pa f;");
        for (int p = 0; p < 4; p++) x.put(p, 1);
        // 3 come for sure, pb with a half, the visitor with a quarter: 1 of 3, 2 of 4, 3 of 5
        is("mean", x.stairs(0), 375000 + 2 * 500000 + 3 * 125000);
        is("nobody", x.stairs(1), 0);
        is("no such", x.stairs(5), -1);
        is("no such", x.stairs(-1), -1);
        is("no desks", told("visit fri 9 100;").stairs(4), 9000000);
        is("the whole not above", told("floor f desks 4 noise 0 cost 0;visit fri 5 3;").stairs(4), 24300L / 1000000);
        is("the whole not above", told("floor f desks 2 noise 0 cost 0;visit fri 3 3;").stairs(4), 27);
    }

    private static void draw() {
        DeskDays x = told(crowd(9, 1, 1) + "comes pa 51;comes pb 30;visit mon 2 20;visit tue 1 78;visit wed 1 79;");
        x.put(0, 1);
        x.put(1, 1);
        long s = 1;
        int came = 0;
        for (int c : new int[] {51, 30, 20, 20}) {
            s = (s * 1103515245L + 12345L) % 2147483648L;
            if (s / 64 % 100 < c) came++;
        }
        is("draw", x.draw(0), came);
        is("nobody", x.draw(4), 0);
        is("no such", x.draw(5), -1);
        is("no such", x.draw(-1), -1);
        for (int k = 0; k < 30; k++) {
            s = (s * 1103515245L + 12345L) % 2147483648L;
            is("one visitor", x.draw(1), s / 64 % 100 < 78 ? 1 : 0);
        }
        // of seed 0 the first draw is 12345 / 64 % 100, that is 92
        DeskDays y = told("visit mon 1 92;visit tue 1 93;visit wed 9 0;visit thu 9 100;");
        y.seed(0);
        is("92 is not below 92", y.draw(0), 0);
        y.seed(0);
        is("92 is below 93", y.draw(1), 1);
        is("never", y.draw(2), 0);
        is("always", y.draw(3), 9);
    }

    private static void seed() {
        DeskDays x = told("visit mon 9 50;");
        is("seed", x.seed(5), true);
        int first = x.draw(0);
        int second = x.draw(0);
        is("below 0", x.seed(-1), false);
        is("below 0", x.seed(Integer.MIN_VALUE), false);
        is("status", x.status(4), 2);
        is("seed", x.seed(5), true);
        is("the same", x.draw(0), first);
        is("refused", x.seed(-5), false);
        is("the seed stays", x.draw(0), second);
        is("most", x.seed(Integer.MAX_VALUE), true);
        is("least", x.seed(0), true);
        DeskDays y = told("visit mon 9 50;");
        y.seed(1);
        is("1 at first", y.draw(0), told("visit mon 9 50;").draw(0));
    }

    // ---- promises 30 and 31: each alone

    private static void alone() {
        DeskDays x = planned();
        is("ann", x.alone(0), 10 + 10 + 5);
        is("bob", x.alone(1), 10 + 7);
        is("cy", x.alone(2), 7 + 6 + 4);
        is("no such", x.alone(4), NOTHING);
        is("no such", x.alone(-1), NOTHING);
        DeskDays y = told(crowd(2, 1, 1, 1) + "own pc f;likes pc mon 60;");
        y.put(0, 1);
        y.put(1, 3);
        y.put(2, 1);
        is("one stands", y.alone(0), -50);
        is("one stands on mon alone", y.alone(1), -50);
        is("an own desk, where others stand", y.alone(2), 10);
        y.put(0, 0);
        is("nobody stands", y.alone(2), 60);
        is("no days", y.alone(0), 0);
    }

    private static void free() {
        DeskDays x = told(crowd(1, 1, 1) + "tie pa pb 9;");
        is("n 0", x.free(0), -1);
        is("n 61", x.free(61), -1);
        is("status", x.status(3), 2);
        is("rests", x.free(5), 2);
        sets(x, "the least of like ones; then not where one sits", 1, 2);
        is("rests at once", x.free(1), 1);
        DeskDays y = told(crowd(9, 1, 2) + "likes pb fri 3;tie pa pb 9;");
        is("not within 1", y.free(1), -2);
        sets(y, "each by those ahead", 1, 17);
        is("it rests", y.free(60), 1);
        DeskDays z = told(crowd(9, 1, 5) + "cannot pb mon;");
        z.put(0, 8);
        z.put(1, 7);
        is("one without sets that suit", z.free(60), 2);
        sets(z, "keeps what it has", 1, 7);
        is("status", z.status(3), 0);
        DeskDays w = told(crowd(1, 1, 1) + "tie pa pb 80;stand 60;");
        is("ties above standing", w.free(60), 2);
        sets(w, "together", 1, 1);
    }

    // ---- promises 32 to 34: seats

    private static final String SEATS = "floor a desks 2 noise 5 cost 9;floor b desks 2 noise 0 cost 9;team t;"
            + "person p team t days 1;person q team t days 1;person r team t days 1;person s team t days 1;person u team t days 1;";

    private static DeskDays seatedOn(String more, int... sets) {
        DeskDays x = told(SEATS + more);
        for (int p = 0; p < sets.length; p++) x.put(p, sets[p]);
        return x;
    }

    private static void seat() {
        DeskDays x = seatedOn("", 1, 1, 1, 1, 1);
        int[] due = {1, 1, 0, 0, -1};
        for (int p = 0; p < 5; p++) is("by noise, then nowhere", x.seat(0, p), due[p]);
        x = seatedOn("own u b;tie p u 1;", 1, 1, 1, 1, 0);
        due = new int[] {1, 0, 0, -1, -1};
        for (int p = 0; p < 5; p++) is("an own desk stays free", x.seat(0, p), due[p]);
        x = seatedOn("own u a;tie p u 5;tie q u 6;", 1, 1, 1, 0, 1);
        // p takes the first floor of like pulls, q then finds it full; exchanged they fit more by 1
        due = new int[] {1, 0, 1, -1, 0};
        for (int p = 0; p < 5; p++) is("exchanged", x.seat(0, p), due[p]);
        is("not in", x.seat(1, 0), -1);
        is("no such", x.seat(0, 5), -1);
        is("no such", x.seat(0, -1), -1);
        is("no such", x.seat(5, 0), -1);
        is("no such", x.seat(-1, 0), -1);
    }

    private static void fit() {
        DeskDays x = seatedOn("own u a;tie p u 5;tie q u 6;", 1, 1, 1, 0, 1);
        is("seated", x.fit(0, 0), 5 - 5 - 5);
        is("exchanged", x.fit(0, 1), 6 - 5 - 5);
        is("exchanges", x.fit(0, 2), 1);
        is("nobody", x.fit(1, 0), 0);
        is("nobody", x.fit(1, 2), 0);
        is("other", x.fit(0, 3), NOTHING);
        is("other", x.fit(0, -1), NOTHING);
        is("no such", x.fit(5, 0), NOTHING);
        is("no such", x.fit(-1, 0), NOTHING);
        // p, q on b; r, s on a; then p with r, as ties of q and r count twice
        x = seatedOn("tie q r 2;tie r q 3;tie p s 4;", 1, 1, 1, 1, 0);
        is("seated", x.fit(0, 0), -10);
        is("exchanged", x.fit(0, 1), 9 - 10);
        is("exchanges", x.fit(0, 2), 1);
        is("the first two", x.seat(0, 0), 0);
        is("the first two", x.seat(0, 2), 1);
        // p sits on b, q by its tie with it too, r alone on a; s goes to r for 6 less 5, not above 0 of b, were it free
        x = seatedOn("tie q p 1;tie r s 6;", 1, 1, 1, 1, 0);
        is("seated by ties", x.fit(0, 0), 1 + 6 - 10);
        is("none to exchange", x.fit(0, 2), 0);
        // q would rather be with p (own desk on a) by 6 less 5, r not by 5 less 5: the first of like ones is a, but it is full then
        x = seatedOn("own p a;tie p q 6;tie r p 5;tie s r 4;", 1, 1, 1, 1, 0);
        is("seated by ties", x.fit(0, 0), 6 + 4 - 10);
        is("q is with p", x.seat(0, 1), 0);
        is("s is with r", x.seat(0, 3), 1);
        x = seatedOn("own p a;tie q p 4;tie r p 6;", 1, 1, 1, 0, 0);
        is("q is on b, r is with p", x.fit(0, 0), 6 - 10);
        x = seatedOn("own p b;tie p s 9;own q b;tie q r 9;", 1, 1, 1, 1, 0);
        is("own desks are not exchanged", x.fit(0, 2), 0);
    }

    private static void shut() {
        DeskDays x = seatedOn("floor c desks 1 noise 0 cost 20;floor d desks 0 noise 0 cost 20;own u a;", 1, 1, 3, 5, 8);
        is("just enough without the one that has no desks", x.shut(0), 3);
        is("the most cost, the first of like ones", x.shut(1), 2);
        x.put(4, 1);
        is("all in", x.shut(0), 3);
        DeskDays y = seatedOn("own u a;", 1, 1, 0, 0, 4);
        is("enough on the other", y.shut(0), 0);
        is("its owner is in", y.shut(2), 1);
        y.put(2, 1);
        is("not enough", y.shut(0), -1);
        is("nobody in", y.shut(4), 0);
        is("no such", y.shut(5), -1);
        is("no such", y.shut(-1), -1);
        DeskDays z = seatedOn("own s b;own u b;", 0, 0, 0, 0, 0);
        is("owners away", z.shut(0), 0);
        is("the first one owns", seatedOn("own p a;", 1).shut(0), 1);
        z.put(0, 1);
        is("own desks of others are not free", z.shut(0), 1);
    }

    // ---- promises 35 to 38: weeks

    private static void never() {
        DeskDays x = told(crowd(9, 1, 1, 1) + "tie pa pb 1;tie pa pc 1;turns pb 1;turns pc 3;turns pc 2;");
        x.put(0, 1);
        x.put(1, 8);
        x.put(2, 2);
        // pb is on mon in week 2, pc (turned by 2) in week 2 too: thu, fri, mon; tue, thu, mon
        is("1 week", x.never(1), 2);
        is("2 weeks", x.never(2), 2);
        is("3 weeks", x.never(3), 0);
        is("9 weeks", x.never(9), 0);
        is("n 0", x.never(0), -1);
        is("n 10", x.never(10), -1);
        x.put(1, 1);
        is("in the first", x.never(1), 1);
        x.put(1, 0);
        is("never in", x.never(9), 1);
        is("no ties", told(crowd(1, 1)).never(1), 0);
    }

    private static void weeks() {
        DeskDays x = told(crowd(9, 1, 1, 1) + "tie pa pb 1;tie pa pc 1;turns pb 1;turns pc 2;");
        x.put(0, 1);
        x.put(1, 1);
        x.put(2, 1);
        is("at once", x.weeks(), 1);
        x.put(1, 2);
        is("tue turns by 1", x.weeks(), 5);
        x.put(1, 8);
        x.put(2, 8);
        is("the later of both", x.weeks(), 3);
        x.put(2, 2);
        is("three", x.weeks(), 3);
        x.put(1, 0);
        is("not in 9", x.weeks(), -1);
        is("no ties", told(crowd(1, 1)).weeks(), 1);
    }

    private static void grow() {
        DeskDays x = told(crowd(2, 1, 1, 1) + "own pc f;");
        x.put(0, 3);
        x.put(2, 31);
        int[] due = {1, 3, 3, 1, 0, 0};
        for (int days = 0; days <= 5; days++) is("grow " + days, x.grow(days), due[days]);
        x.put(1, 2);
        is("where some stand", x.grow(1), 3);
        is("6", x.grow(6), -1);
        is("-1", x.grow(-1), -1);
        DeskDays y = told(crowd(1));
        int[] all = {1, 5, 10, 10, 5, 1};
        for (int days = 0; days <= 5; days++) is("grow " + days, y.grow(days), all[days]);
    }

    private static void move() {
        DeskDays x = told(crowd(1, 1, 1, 5) + "cannot pb fri;own pc f;floor g desks 1 noise 0 cost 0;");
        x.put(0, 1);
        x.put(1, 2);
        is("does not hold", x.move(0), 0);
        x.put(2, 31);
        is("others", x.move(0), 3);
        is("others", x.move(1), 2);
        is("the one alone", x.move(2), 0);
        x.put(2, 3);
        is("one that then holds", x.move(2), 1);
        is("set stays", x.person(2, 6), 3);
        is("no such", x.move(3), -1);
        is("no such", x.move(-1), -1);
    }

    // ---- promises 39 to 42: images

    private static int check(int... all) {
        int c = 31;
        for (int b : all) c = (5 * c + b) % 227;
        return c;
    }

    private static void image() {
        DeskDays x = planned();
        is("image", x.image(), 6);
        int[] due = {4, 3, 1, 21, 17, check(4, 3, 1, 21, 17)};
        for (int k = 0; k < 6; k++) is("octet " + k, x.octet(k), due[k]);
        is("of nobody", new DeskDays().image(), 2);
    }

    private static void octet() {
        DeskDays x = new DeskDays();
        is("ahead of any", x.octet(0), -1);
        x.image();
        is("persons", x.octet(0), 0);
        is("last", x.octet(1), 155);
        is("behind", x.octet(2), -1);
        is("ahead", x.octet(-1), -1);
        tell(x, HOUSE);
        is("the latest one stays", x.octet(1), 155);
        is("behind", x.octet(2), -1);
        x.image();
        x.put(0, 31);
        is("as it was", x.octet(1), 0);
        is("far", x.octet(Integer.MAX_VALUE), -1);
    }

    private static void on() {
        DeskDays x = told(HOUSE);
        tape(x, bytes(4, 31, 0, 7, 9, check(4, 31, 0, 7, 9)));
        is("on", x.on(), true);
        sets(x, "on", 31, 0, 7, 9);
        is("the tape went", x.end(1), false);
        String[] wrongOnes = {"", bytes(4, 1, 1, 1, 1), bytes(4, 1, 1, 1, 1, check(4, 1, 1, 1, 1) + 1),
            bytes(3, 1, 1, 1, check(3, 1, 1, 1)), bytes(3, 1, 1, 1, 1, check(3, 1, 1, 1, 1)), bytes(4, 1, 1, 1, 32, check(4, 1, 1, 1, 32)),
            bytes(4, 1, 1, 1, 1, check(4, 1, 1, 1, 1), 0), bytes(5, 1, 1, 1, 1, 1, check(5, 1, 1, 1, 1, 1))};
        for (String one : wrongOnes) {
            tape(x, one);
            is("not an image", x.on(), false);
            is("the tape went, no image though", x.feed(0, 0, 0, 0, 0), 20);
        }
        sets(x, "stays", 31, 0, 7, 9);
        is("status", x.status(5), wrongOnes.length);
        DeskDays y = new DeskDays();
        tape(y, bytes(0, 155));
        is("of nobody", y.on(), true);
    }

    private static void status() {
        DeskDays x = told(crowd(1, 1, 1));
        x.end(5);
        x.house();
        x.put(9, 9);
        x.put(0, 99);
        x.better(0);
        x.seed(-1);
        x.on();
        x.on();
        x.on();
        tell(x, "x");
        tell(x, "y");
        int[] due = {1, 2, 2, 1, 1, 3};
        x.house();
        for (int what = 0; what < 6; what++) is("status " + what, x.status(what), due[what]);
        is("other", x.status(6), -1);
        is("other", x.status(-1), -1);
        x.has(-1);
        x.fault(9);
        x.trade(0, 0);
        x.seat(9, 9);
        x.likely(9, 9);
        x.over(-1, 0, 0);
        x.never(0);
        x.grow(9);
        x.judge(9);
        for (int what = 0; what < 6; what++) is("no others count " + what, x.status(what), due[what]);
    }

    /** No call may fail in a house that has all it may have, nor by any argument. */
    private static void fullHouse() {
        promise = 42;
        StringBuilder s = new StringBuilder();
        for (char c = 'a'; c < 'f'; c++) s.append("floor f").append(c).append(" desks 2 noise 1 cost 1;");
        for (char c = 'a'; c < 'g'; c++) s.append("team t").append(c).append(";meet t").append(c).append(";");
        for (char c = 'a'; c < 'm'; c++) s.append("person p").append(c).append(" team tf days 2;");
        for (int k = 0; k < 30; k++) s.append("tie p").append((char) ('a' + k % 12)).append(" p").append((char) ('a' + (k + 1 + k / 12) % 12)).append(" 9;");
        for (int k = 0; k < 12; k++) s.append("worth many+").append(k).append(" when day*9>70;");
        for (String day : new String[] {"mon", "tue", "wed", "thu", "fri"}) s.append("visit ").append(day).append(" 9 50;");
        DeskDays x = told(s.toString());
        int[] counts = {5, 6, 12, 30, 10, 0, 12, 50, 6};
        for (int what = 0; what < counts.length; what++) is("has " + what, x.has(what), counts[what]);
        int[] some = {Integer.MIN_VALUE, -2, -1, 0, 1, 2, 4, 5, 6, 9, 11, 12, 29, 30, 31, 32, 40, 60, 100, 101, 2000, Integer.MAX_VALUE};
        int[][] plans = {{0}, {31}, {3}, {1, 2, 4, 8, 16}};
        for (int[] plan : plans) {
            for (int p = 0; p < 12; p++) x.put(p, plan[p % plan.length]);
            for (int a : some) callAll(x, a, some);
        }
        is("all 12 in", x.image(), 14);
    }
    private static void callAll(DeskDays x, int a, int[] some) {
        x.seek();
        x.spent();
        x.weeks();
        x.worth();
        x.fault(a);
        x.has(a);
        x.met(a);
        x.judge(a);
        x.should(a);
        x.bound(a > 0);
        x.stairs(a);
        x.draw(a);
        x.seed(a);
        x.alone(a);
        x.shut(a);
        x.never(a);
        x.grow(a);
        x.move(a);
        x.octet(a);
        x.status(a);
        x.better(a);
        x.free(a);
        x.end(a);
        x.feed(a, a, a, a, a);
        x.row();
        x.on();
        // house() on the empty tape that on() leaves would be a house of nobody.
        x.feed(a, a, a, a, a);
        x.house();
        for (int b : some) {
            x.person(a, b);
            x.floor(a, b);
            x.put(a, b);
            x.day(a, b);
            x.both(a, b);
            x.trade(a, b);
            x.likely(a, b);
            x.enough(a, b);
            x.seat(a, b);
            x.fit(a, b);
            x.letter(a, b, a);
            x.letter(2, a, b);
            x.over(50, a, b);
            x.over(a, 5, b);
        }
    }

    private static void run(int number) {
        promise = number;
        switch (number) {
            case 1: aNewObject(); break;
            case 2: feed(); break;
            case 3: end(); break;
            case 4: house(); break;
            case 5: fault(); break;
            case 6: has(); break;
            case 7: letter(); break;
            case 8: person(); break;
            case 9: floor(); break;
            case 10: put(); break;
            case 11: row(); break;
            case 12: day(); break;
            case 13: met(); break;
            case 14: judge(); break;
            case 15: worth(); break;
            case 16: seek(); break;
            case 17: spent(); break;
            case 18: fewest(); break;
            case 19: better(); break;
            case 20: both(); break;
            case 21: trade(); break;
            case 22: should(); break;
            case 23: bound(); break;
            case 24: likely(); break;
            case 25: enough(); break;
            case 26: over(); break;
            case 27: stairs(); break;
            case 28: draw(); break;
            case 29: seed(); break;
            case 30: alone(); break;
            case 31: free(); break;
            case 32: seat(); break;
            case 33: fit(); break;
            case 34: shut(); break;
            case 35: never(); break;
            case 36: weeks(); break;
            case 37: grow(); break;
            case 38: move(); break;
            case 39: image(); break;
            case 40: octet(); break;
            case 41: on(); break;
            default: status(); break;
        }
    }

    public static void main(String[] args) {
        for (int number = 1; number <= 42; number++) run(number);
        fullHouse();
        System.out.println("promise tests: " + checks + " answers, " + wrong + " not as due");
        if (wrong != 0) System.exit(1);
    }
}
