import java.util.function.ToIntFunction;

/** Boundaries of Terms I (texts and their faults) and of promises 1 to 9. */
final class TextEdges {
    private static final String TWO = "floor f desks 2 noise 0 cost 0;floor g desks 1 noise 0 cost 0;floor n desks 0 noise 0 cost 0;"
        + "team t;person p team t days 1;person q team t days 1;person r team t days 1;";
    private static final String[] OWN_WORDS = {"floor", "desks", "noise", "cost", "team", "person", "days", "cannot", "likes", "tie",
        "comes", "visit", "own", "meet", "turns", "stand", "worth", "mon", "tue", "wed", "thu", "fri", "when", "or", "and", "not",
        "all", "day", "crew", "many", "room", "min", "max"};

    private TextEdges() {
    }

    static void all() {
        Edges.of("Terms I");
        wordsAndNumbers();
        blanks();
        statementsAndTheirNumbers();
        lastOnesAndWithout();
        tooMany();
        own();
        days();
        sumsAndTests();
        reckoning();
        names();
        faultOne();
        faultOrder();
        open();
        aNewObject();
        feed();
        end();
        house();
        faultCall();
        has();
        letter();
        person();
        floor();
    }

    private static void wordsAndNumbers() {
        Edges.says("WORDS (1 to 6 letters a .. z)");
        Edges.test("a name of 1 letter", () -> Edges.is("letter 1", Edges.told("team q;").letter(1, 0, 1), -1));
        Edges.test("a name of 6 letters", () -> Edges.is("letter 5", Edges.told("team abcdez;").letter(1, 0, 5), 'z'));
        Edges.test("names of 6 letters that differ in the last one", () -> Edges.taken("team abcdef;team abcdeg;", 2));
        Edges.test("names of 6 letters that differ in the first one", () -> Edges.taken("team abcdef;team bbcdef;", 2));
        Edges.test("names of 6 letters that differ in the first one, each of a .. z", () -> {
            for (char c = 'b'; c <= 'z'; c++) Edges.taken("team abcdef;team " + c + "bcdef;", 2);
        });
        Edges.test("a name that begins another one", () -> Edges.taken("team abcde;team abcdef;team a;", 3));
        Edges.test("a 7th letter", () -> Edges.fault(1, "team abcdef^g;"));
        Edges.test("an 8th letter is behind the 7th", () -> Edges.fault(1, "team abcdef^gh;"));
        Edges.test("a and z", () -> Edges.taken("team a;team z;", 2));
        Edges.test("the byte ahead of a", () -> Edges.fault(1, "team ^`;"));
        Edges.test("the byte behind z", () -> Edges.fault(1, "team ^{;"));
        Edges.test("the byte ahead of a inside a name", () -> Edges.fault(1, "team a^`b;"));
        Edges.test("the byte behind z inside a name", () -> Edges.fault(1, "team a^{b;"));
        Edges.test("capital letters", () -> Edges.fault(1, "team ^A;"));
        Edges.test("a capital letter inside a name", () -> Edges.fault(1, "team a^Z;"));
        Edges.test("a byte of 225", () -> Edges.fault(1, "team ^" + (char) 225 + ";"));
        Edges.says("NUMBERS (1 to 4 digits)");
        Edges.test("1 digit", () -> Edges.is("stand", Edges.told("stand 7;").has(7), 7));
        Edges.test("4 digits", () -> Edges.is("stand", Edges.told("stand 0999;").has(7), 999));
        Edges.test("4 digits, all 0", () -> Edges.is("stand", Edges.told("stand 0000;").has(7), 0));
        Edges.test("a 5th digit", () -> Edges.fault(1, "stand 0000^0;"));
        Edges.test("a 5th digit of a number that can't be", () -> Edges.fault(1, "stand 9999^9;"));
        Edges.test("a 6th digit is behind the 5th", () -> Edges.fault(1, "stand 1234^56;"));
        Edges.test("the byte ahead of 0", () -> Edges.fault(1, "stand ^/;"));
        Edges.test("the byte behind 9", () -> Edges.fault(1, "stand ^:;"));
        Edges.test("the byte ahead of 0 inside a number", () -> Edges.fault(1, "stand 1^/2;"));
        Edges.test("the byte behind 9 inside a number", () -> Edges.fault(1, "stand 1^:2;"));
        Edges.test("a number below 0 is none", () -> Edges.fault(1, "stand ^-1;"));
        Edges.says("a 7th letter, a 5th digit at itself, whatever may stand there");
        Edges.test("a 7th letter where a statement must begin", () -> Edges.fault(1, "abcdef^g;"));
        Edges.test("a 7th letter behind an own word's six", () -> Edges.fault(1, "person^s p team t days 1;"));
        Edges.test("a 7th letter where a number must be", () -> Edges.fault(1, "stand abcdef^g;"));
        Edges.test("a 7th letter where ; must be", () -> Edges.fault(1, "stand 1 abcdef^g;"));
        Edges.test("a 7th letter where a day must be", () -> Edges.fault(1, "visit monday^s 1 1;"));
        Edges.test("a 7th letter at the text's end", () -> Edges.fault(1, "team abcdef^g"));
        Edges.test("a 5th digit where a name must be", () -> Edges.fault(1, "team 1234^5;"));
        Edges.test("a 5th digit where a statement must begin", () -> Edges.fault(1, "1234^5;"));
        Edges.test("a 5th digit where ; must be", () -> Edges.fault(1, "team a 1234^5;"));
        Edges.test("a 5th digit of a sum", () -> Edges.fault(1, "worth 1234^5 when all;"));
        Edges.test("a 5th digit at the text's end", () -> Edges.fault(1, "stand 0000^0"));
        Edges.test("4 digits where a name must be: at their first", () -> Edges.fault(1, "team ^1234;"));
        Edges.test("6 letters where a number must be: at their first", () -> Edges.fault(1, "stand ^abcdef;"));
    }

    private static void blanks() {
        Edges.says("blanks (10, 32) between where one likes");
        Edges.test("none between signs and words", () -> Edges.taken("team a;team b;worth(1)when[all]or(1)=(1)and(1)<2;", 3));
        Edges.test("none between signs", () -> Edges.taken("worth((1)+(2))when[[all]];", 1));
        Edges.test("ahead of all and behind all", () -> Edges.taken(" \n team a; \n ", 1));
        Edges.test("between all", () -> Edges.taken("team\na ;\n\n worth ( 1 ) when [ all ] ;", 2));
        Edges.test("byte 10 alone", () -> Edges.taken("team\na\n;", 1));
        Edges.test("byte 9 is none", () -> Edges.fault(1, "team^\ta;"));
        Edges.test("byte 11 is none", () -> Edges.fault(1, "team^" + (char) 11 + "a;"));
        Edges.test("byte 13 is none", () -> Edges.fault(1, "team a;^\r\n"));
        Edges.test("byte 31 is none", () -> Edges.fault(1, "^" + (char) 31 + "team a;"));
        Edges.test("byte 33 is none", () -> Edges.fault(1, "team a^!;"));
        Edges.test("byte 0 is none", () -> Edges.fault(1, "team a;^" + (char) 0));
        Edges.test("byte 160 is none", () -> Edges.fault(1, "team^" + (char) 160 + "a;"));
        Edges.test("byte 255 is none", () -> Edges.fault(1, "^" + (char) 255));
        Edges.test("blanks inside a word part it", () -> Edges.fault(1, "^te am a;"));
        Edges.test("blanks inside a number part it", () -> Edges.fault(1, "stand 1 ^2;"));
        Edges.says("WORDS and NUMBERS side by side need one");
        Edges.test("a word, then a number", () -> Edges.fault(1, "stand^1;"));
        Edges.test("a number, then a word", () -> Edges.fault(1, "floor f desks 1^noise 0 cost 0;"));
        Edges.test("a name, then a number", () -> Edges.fault(1, TWO + "tie p q^1;"));
        Edges.test("a day, then a number", () -> Edges.fault(1, "visit mon^1 1;"));
        Edges.test("a number of a sum, then a word", () -> Edges.fault(1, "worth 1^when all;"));
        Edges.test("a word of a test, then a number", () -> Edges.fault(1, "worth 1 when not^1=2;"));
        Edges.test("a word of 6 letters, then a number", () -> Edges.fault(1, "team abcdef^1;"));
        Edges.test("a number of 4 digits, then a word", () -> Edges.fault(1, "floor f desks 0001^noise 0 cost 0;"));
        Edges.test("one byte 10 is enough", () -> Edges.taken("stand\n1;", 1));
        Edges.test("one byte 32 is enough", () -> Edges.taken("stand 1;", 1));
    }

    private static void statementsAndTheirNumbers() {
        Edges.says("{ STATEMENT ; }");
        Edges.test("no statement", () -> Edges.taken("", 0));
        Edges.test("blanks alone", () -> Edges.taken(" \n ", 0));
        Edges.test("one", () -> Edges.taken("team a;", 1));
        Edges.test("; alone", () -> Edges.fault(1, "^;"));
        Edges.test("; twice", () -> Edges.fault(1, "team a;^;"));
        Edges.test("two without ; between", () -> Edges.fault(1, "team a ^team b;"));
        Edges.says("floor NAME desks N noise N cost N (5 FLOORS; 0 .. 20, 0 .. 99, 0 .. 999)");
        number("floor f desks ", " noise 0 cost 0;", 20, x -> x.floor(0, 0));
        number("floor f desks 0 noise ", " cost 0;", 99, x -> x.floor(0, 1));
        number("floor f desks 0 noise 0 cost ", ";", 999, x -> x.floor(0, 2));
        Edges.says("person NAME team NAME days N (12 PERSONS; a TEAM; DAYS 0 .. 5)");
        number("team t;person p team t days ", ";", 5, x -> x.person(0, 1));
        Edges.says("likes NAME DAY N (0 .. 99; the last one of both counts)");
        number(TWO + "likes p tue ", ";", 99, x -> {
            x.put(0, 2);
            return x.worth();
        });
        Edges.says("tie NAME NAME N (two unlike PERSONS, 0 .. 99; 30 TIES)");
        number(TWO + "tie q p ", ";", 99, x -> {
            x.put(0, 2);
            x.put(1, 2);
            return x.worth();
        });
        Edges.says("comes NAME N (0 .. 100, of 100; the last one counts; 100 without)");
        number(TWO + "comes p ", ";", 100, x -> x.person(0, 3));
        Edges.says("visit DAY N N (0 .. 9 visitors, each with so many of 100; the last one of a DAY counts)");
        number("visit wed ", " 5;", 9, x -> x.day(2, 2));
        number("visit wed 1 ", ";", 100, x -> (int) (x.likely(2, 0) / 10000000000L));
        Edges.says("turns NAME N (a PERSON, 0 .. 4; the last one counts; 0 without)");
        number(TWO + "turns q ", ";", 4, x -> x.person(1, 5));
        Edges.says("stand N (0 .. 999; the last one counts; 50 without)");
        number("stand ", ";", 999, x -> x.has(7));
        Edges.says("4 a NUMBER that can't be, at its first byte");
        Edges.test("a number that can't be, with 0 ahead: at the 0", () -> Edges.fault(4, "floor f desks ^0021 noise 0 cost 0;"));
        Edges.test("a number that can't be at the text's end", () -> Edges.fault(4, "stand ^1000"));
        Edges.test("9999 as a sum", () -> Edges.taken("worth 9999 when 9999=9999;", 1));
    }
    /** Tests of a number 0 .. most in a statement: the least one, the greatest, one above, the greatest that is a NUMBER. */
    private static void number(String ahead, String behind, int most, ToIntFunction<DeskDays> asked) {
        String shown = ahead.startsWith(TWO) ? ahead.substring(TWO.length()) : ahead;
        Edges.test(shown + 0, () -> Edges.is("asked", asked.applyAsInt(Edges.told(ahead + 0 + behind)), 0));
        Edges.test(shown + most, () -> Edges.is("asked", asked.applyAsInt(Edges.told(ahead + most + behind)), most));
        Edges.test(shown + (most + 1), () -> Edges.fault(4, ahead + "^" + (most + 1) + behind));
        Edges.test(shown + 9999, () -> Edges.fault(4, ahead + "^9999" + behind));
    }

    private static void lastOnesAndWithout() {
        Edges.says("the last one of both counts");
        Edges.test("likes: none is 0", () -> Edges.is("worth", Edges.planned(TWO, 31).worth(), 0));
        Edges.test("likes: the last one of a person and a day", () -> Edges.is("worth", Edges.planned(TWO + "likes p mon 9;likes p mon 4;", 1).worth(), 4));
        Edges.test("likes: the last one may be 0", () -> Edges.is("worth", Edges.planned(TWO + "likes p mon 9;likes p mon 0;", 1).worth(), 0));
        Edges.test("likes: another day's stays", () -> Edges.is("worth", Edges.planned(TWO + "likes p mon 9;likes p tue 4;", 1).worth(), 9));
        Edges.test("likes: another person's stays", () -> Edges.is("worth", Edges.planned(TWO + "likes p mon 9;likes q mon 4;", 1).worth(), 9));
        Edges.says("comes NAME N (0 .. 100, of 100; the last one counts; 100 without)");
        Edges.test("comes: 100 without", () -> Edges.is("person(0, 3)", Edges.told(TWO).person(0, 3), 100));
        Edges.test("comes: the last one", () -> Edges.is("person(0, 3)", Edges.told(TWO + "comes p 7;comes p 0;").person(0, 3), 0));
        Edges.test("comes: another person's stays", () -> Edges.is("person(0, 3)", Edges.told(TWO + "comes p 7;comes q 8;").person(0, 3), 7));
        Edges.says("the last one of a DAY counts");
        Edges.test("visit: 0 without", () -> Edges.is("day(0, 2)", Edges.told(TWO).day(0, 2), 0));
        Edges.test("visit: the last one of a day", () -> Edges.is("day(0, 2)", Edges.told("visit mon 9 1;visit mon 0 1;").day(0, 2), 0));
        Edges.test("visit: its chance too", () -> Edges.is("likely", Edges.told("visit mon 1 1;visit mon 1 100;").likely(0, 0), 1000000000000L));
        Edges.test("visit: another day's stays", () -> Edges.is("day(0, 2)", Edges.told("visit mon 9 1;visit tue 3 1;").day(0, 2), 9));
        Edges.says("turns NAME N (a PERSON, 0 .. 4; the last one counts; 0 without)");
        Edges.test("turns: 0 without", () -> Edges.is("person(0, 5)", Edges.told(TWO).person(0, 5), 0));
        Edges.test("turns: the last one", () -> Edges.is("person(0, 5)", Edges.told(TWO + "turns p 4;turns p 0;").person(0, 5), 0));
        Edges.says("stand N (0 .. 999; the last one counts; 50 without)");
        Edges.test("stand: 50 without", () -> Edges.is("has(7)", Edges.told(TWO).has(7), 50));
        Edges.test("stand: 50 without, behind a house with one", () -> {
            DeskDays x = Edges.told("stand 7;");
            Edges.tell(x, TWO);
            Edges.is("has(7)", x.has(7), 50);
        });
        Edges.test("stand: the last one", () -> Edges.is("has(7)", Edges.told("stand 7;stand 0;").has(7), 0));
        Edges.says("cannot NAME DAY (a PERSON)");
        Edges.test("cannot: none without", () -> Edges.is("person(0, 2)", Edges.told(TWO).person(0, 2), 0));
        Edges.test("cannot: all days", () -> Edges.is("person(0, 2)", Edges.told(TWO
            + "cannot p mon;cannot p tue;cannot p wed;cannot p thu;cannot p fri;").person(0, 2), 31));
        Edges.test("cannot: one day twice", () -> Edges.is("person(0, 2)", Edges.told(TWO + "cannot p fri;cannot p fri;").person(0, 2), 16));
        Edges.says("meet NAME (a TEAM)");
        Edges.test("meet: one team twice is one", () -> Edges.is("has(8)", Edges.told(TWO + "meet t;meet t;").has(8), 1));
    }

    private static String named(int n, String ahead, char kind, String behind) {
        StringBuilder s = new StringBuilder();
        for (int k = 0; k < n; k++) s.append(ahead).append(kind).append((char) ('a' + k)).append(behind);
        return s.toString();
    }
    private static void tooMany() {
        String floors = named(5, "floor ", 'f', " desks 1 noise 0 cost 0;");
        String teams = named(6, "team ", 't', ";");
        String persons = "team t;" + named(12, "person ", 'p', " team t days 1;");
        String ties = TWO + "tie p q 1;".repeat(30);
        String rules = "worth 1 when all;".repeat(12);
        Edges.says("5 one too many of a kind of STATEMENT, at its first byte");
        Edges.test("5 floors", () -> Edges.is("has(0)", Edges.told(floors).has(0), 5));
        Edges.test("a 6th floor", () -> Edges.fault(5, floors + "^floor x desks 1 noise 0 cost 0;"));
        Edges.test("6 teams", () -> Edges.is("has(1)", Edges.told(teams).has(1), 6));
        Edges.test("a 7th team", () -> Edges.fault(5, teams + "^team x;"));
        Edges.test("12 persons", () -> Edges.is("has(2)", Edges.told(persons).has(2), 12));
        Edges.test("a 13th person", () -> Edges.fault(5, persons + "^person x team t days 1;"));
        Edges.test("30 ties", () -> Edges.is("has(3)", Edges.told(ties).has(3), 30));
        Edges.test("a 31st tie", () -> Edges.fault(5, ties + "^tie p q 1;"));
        Edges.test("12 rules", () -> Edges.is("has(6)", Edges.told(rules).has(6), 12));
        Edges.test("a 13th rule", () -> Edges.fault(5, rules + "^worth 1 when all;"));
        Edges.test("ahead of its other faults", () -> Edges.fault(5, teams + "^team team;"));
        Edges.test("ahead of the text's end", () -> Edges.fault(5, teams + " ^team"));
        Edges.test("other kinds have no limit", () -> Edges.taken(TWO + "cannot p mon;".repeat(40) + "meet t;".repeat(40) + "stand 1;".repeat(40), 7 + 120));
        Edges.test("likes, comes, turns, visit have no limit", () -> Edges.taken(TWO + "likes p mon 1;".repeat(31) + "comes p 1;".repeat(31)
            + "turns p 1;".repeat(31) + "visit mon 1 1;".repeat(31), 7 + 124));
        Edges.test("a kind that is full leaves the others", () -> Edges.taken(teams + "floor x desks 1 noise 0 cost 0;person p team ta days 1;", 8));
    }

    private static void own() {
        Edges.says("own NAME NAME (a PERSON without an own desk, a FLOOR with a desk that is nobody's)");
        Edges.test("a floor's last desk", () -> Edges.is("floor(0, 3)", Edges.told(TWO + "own p f;own q f;").floor(0, 3), 2));
        Edges.test("a floor whose desks are all owned", () -> Edges.fault(3, TWO + "own p f;own q f;own r ^f;"));
        Edges.test("a floor of 1 desk, owned", () -> Edges.fault(3, TWO + "own p g;own q ^g;"));
        Edges.test("a floor without desks", () -> Edges.fault(3, TWO + "own p ^n;"));
        Edges.test("a person with an own desk", () -> Edges.fault(3, TWO + "own p f;own ^p g;"));
        Edges.test("a person with an own desk, the same floor", () -> Edges.fault(3, TWO + "own p f;own ^p f;"));
        Edges.test("the person is looked at first", () -> Edges.fault(3, TWO + "own p g;own ^p g;"));
        Edges.test("the first floor", () -> Edges.is("person(0, 4)", Edges.told(TWO + "own p f;").person(0, 4), 0));
    }

    private static void days() {
        Edges.says("DAY: mon, tue, wed, thu, fri (0 .. 4)");
        for (int d = 0; d < 5; d++) {
            int day = d;
            Edges.test(Edges.WEEK[d], () -> Edges.is("cannot", Edges.told(TWO + "cannot p " + Edges.WEEK[day] + ";").person(0, 2), 1 << day));
        }
        Edges.test("another word", () -> Edges.fault(1, TWO + "cannot p ^sat;"));
        Edges.test("the own word ahead of mon", () -> Edges.fault(1, TWO + "cannot p ^worth;"));
        Edges.test("the own word behind fri", () -> Edges.fault(1, TWO + "cannot p ^when;"));
        Edges.test("a number", () -> Edges.fault(1, TWO + "cannot p ^0;"));
        Edges.test("a person's name", () -> Edges.fault(1, TWO + "cannot p ^p;"));
    }

    private static void rule(String text) {
        Edges.test("worth " + text + " is one", () -> Edges.taken("worth " + text + ";", 1));
    }
    private static void noRule(String marked) {
        Edges.test("worth " + marked + " is none", () -> Edges.fault(1, "worth " + marked));
    }
    private static void sumsAndTests() {
        Edges.says("TEST: BOTH { or BOTH }. BOTH: FACT { and FACT }.");
        rule("1 when all");
        rule("1 when all or all or all");
        rule("1 when all and all and all or all");
        noRule("1 when ^;");
        noRule("1 when all or^;");
        noRule("1 when all and^;");
        noRule("1 when ^or all;");
        noRule("1 when ^and all;");
        noRule("1 when all ^all;");
        Edges.says("FACT: not FACT; [ TEST ] ; all; SUM SIGN SUM, SIGN being < or > or = .");
        rule("1 when not not not all");
        rule("1 when not[not[all]]");
        rule("1 when[1<2 or 1>2]and 1=2");
        noRule("1 when not^;");
        noRule("1 when [^];");
        noRule("1 when [all^;");
        noRule("1 when all^];");
        noRule("1 when [1^];");
        noRule("1 when 1^;");
        noRule("1 when 1<^;");
        noRule("1 when ^<1;");
        noRule("1 when 1=2^=3;");
        noRule("1 when 1<^=2;");
        noRule("1 when not 1 ^and all;");
        noRule("1 when (^all);");
        noRule("1 when (1^=1);");
        Edges.says("SUM: PRODUCT { + PRODUCT, or - PRODUCT }. PRODUCT: PART { * PART, or / PART, or % PART }.");
        rule("1+2-3*4/5%6 when all");
        noRule("^+1 when all;");
        noRule("^-1 when all;");
        noRule("1+^-1 when all;");
        noRule("1* ^when all;");
        noRule("1/^/2 when all;");
        noRule("1%^%2 when all;");
        noRule("1 ^2 when all;");
        Edges.says("PART: N; day; person; crew; many; room; ( SUM ) ; min ( SUM , SUM ) ; max ( SUM , SUM ) .");
        rule("day+person+crew+many+room when all");
        rule("min(1,2)+max(1,2) when all");
        noRule("(^) when all;");
        noRule("(1 ^when all;");
        noRule("1^) when all;");
        noRule("min ^1,2) when all;");
        noRule("min(1^) when all;");
        noRule("min(1,^) when all;");
        noRule("min(^,1) when all;");
        noRule("max(1,2^,3) when all;");
        noRule("max(1^;2) when all;");
        noRule("^all when all;");
        noRule("^mon when all;");
        noRule("^x when all;");
        noRule("^[1] when all;");
        noRule("^;");
        noRule("1^;");
        noRule("1 ^all;");
    }

    private static void reckoned(String sum, int want) {
        Edges.test(sum, () -> Edges.is("worth", Edges.planned(Edges.crowd(17, 1) + "worth " + sum + " when all;", 1).worth(), want));
    }
    private static void reckoning() {
        Edges.says("/ gives the greatest whole number not above, % what then lacks (by 0 both give 0)");
        reckoned("7/0", 0);
        reckoned("7%0", 0);
        reckoned("0/0", 0);
        reckoned("(0-7)/(1-1)", 0);
        reckoned("(0-7)%(1-1)", 0);
        reckoned("6/3", 2);
        reckoned("(0-6)/3", -2);
        reckoned("(0-7)/3", -3);
        reckoned("7/(0-3)", -3);
        reckoned("(0-7)/(0-3)", 2);
        reckoned("(0-1)/9999", -1);
        reckoned("(0-6)%3", 0);
        reckoned("(0-7)%3", 2);
        reckoned("7%(0-3)", -2);
        reckoned("(0-7)%(0-3)", -1);
        reckoned("(0-1000*1000)/(0-1)", 1000000);
        Edges.says("each sum, difference, product above 10 to the 6 is that, below -10 to the 6 likewise");
        reckoned("1000*1000", 1000000);
        reckoned("1000*1000+0", 1000000);
        reckoned("999*1001+1", 1000000);
        reckoned("999*1001+2-2", 999998);
        reckoned("1000*1000+1-1", 999999);
        reckoned("1000*1000+1", 1000000);
        reckoned("1000*1001-1", 999999);
        reckoned("9999*9999*9999-1", 999999);
        reckoned("0-1000*1000", -1000000);
        reckoned("0-1000*1000-1+1", -999999);
        reckoned("0-1000*1000+(0-1)+1", -999999);
        reckoned("(0-1001)*1000+1", -999999);
        reckoned("(0-9999)*9999*9999*9999+1", -999999);
        reckoned("(0-9999)*9999*9999*(0-9999)-1", 999999);
        reckoned("9999*9999-9999*9999", 0);
        reckoned("(1000*1000+1000*1000)/2", 500000);
        Edges.says("All from the left on");
        reckoned("10-4-3", 3);
        reckoned("100/10/5", 2);
        reckoned("7*3%5", 1);
        reckoned("7%5*3", 6);
        reckoned("8/3*3", 6);
        reckoned("2+3*4", 14);
        Edges.says("(person is the number of the PERSON, crew that of its TEAM, many how many PERSONS are in on the day, room DESKS.)");
        part("day", 0, 0, 0);
        part("day", 4, 4, 4);
        part("person", 0, 0, 0);
        part("person", 0, 11, 11);
        part("crew", 0, 0, 5);
        part("crew", 0, 11, 0);
        part("many", 0, 0, 12);
        part("many", 4, 4, 1);
        part("room", 0, 0, 17);
        reckoned("min(1,2)", 1);
        reckoned("min(2,1)", 1);
        reckoned("max(1,2)", 2);
        reckoned("max(2,1)", 2);
        reckoned("min(0-1,1)", -1);
        reckoned("max(0-1000*1000,1000*1000)", 1000000);
        reckoned("min(7,7)+max(7,7)", 14);
        tested("1<1", false);
        tested("1<2", true);
        tested("2<1", false);
        tested("1>1", false);
        tested("2>1", true);
        tested("1>2", false);
        tested("1=1", true);
        tested("1=2", false);
        tested("0-1<0", true);
        tested("not all", false);
        tested("not not all", true);
        tested("all and all", true);
        tested("all and 1=2", false);
        tested("1=2 and all", false);
        tested("1=2 or all", true);
        tested("all or 1=2", true);
        tested("1=2 or 1=2", false);
        tested("all or all and 1=2", true);
        tested("1=2 and 1=2 or all", true);
        tested("[all or all] and 1=2", false);
        tested("not 1=2 or all", true);
        tested("not all or all", true);
        tested("not [all or all]", false);
    }
    private static void tested(String test, boolean isHolding) {
        Edges.test(test, () -> Edges.is("worth", Edges.planned(Edges.crowd(17, 1) + "worth 1 when " + test + ";", 1).worth(), isHolding ? 1 : 0));
    }
    /** A part for one of twelve persons who are in on mon, the fifth of them on fri too; the last team has all but the last person. */
    private static void part(String word, int day, int person, int want) {
        Edges.test(word + " for person " + person + " on day " + day, () -> {
            StringBuilder s = new StringBuilder("floor f desks 8 noise 0 cost 0;floor g desks 9 noise 0 cost 0;" + named(6, "team ", 't', ";"));
            for (int p = 0; p < 12; p++) s.append("person p").append((char) ('a' + p)).append(" team t").append(p < 11 ? 'f' : 'a').append(" days 1;");
            DeskDays x = Edges.told(s + "worth " + word + " when person=" + person + " and day=" + day + ";");
            for (int p = 0; p < 12; p++) x.put(p, p == 4 ? 17 : 1);
            Edges.is("worth", x.worth(), want);
        });
    }

    private static void names() {
        Edges.says("OWN WORDS, which no NAME is");
        for (String word : OWN_WORDS) {
            Edges.test(word + " as a name to be given", () -> {
                Edges.fault(1, "floor ^" + word + " desks 1 noise 0 cost 0;");
                Edges.fault(1, "team ^" + word + ";");
                Edges.fault(1, "team t;person ^" + word + " team t days 1;");
            });
            Edges.test(word + " as a name that is asked", () -> {
                Edges.fault(1, TWO + "meet ^" + word + ";");
                Edges.fault(1, TWO + "cannot ^" + word + " mon;");
                Edges.fault(1, TWO + "tie p ^" + word + " 1;");
                Edges.fault(1, TWO + "own p ^" + word + ";");
                Edges.fault(1, TWO + "person x team ^" + word + " days 1;");
            });
            Edges.test(word + " with one letter less or more is a name", () -> {
                String less = word.substring(0, word.length() - 1);
                if (!less.equals("day")) Edges.taken("team " + less + ";", 1);
                if (word.length() < 6) Edges.taken("team " + word + "x;", 1);
            });
        }
        Edges.says("2 a NAME to be given that is there already, at its first byte");
        Edges.test("a floor's name for a floor", () -> Edges.fault(2, TWO + "floor ^f desks 1 noise 0 cost 0;"));
        Edges.test("a floor's name for a team", () -> Edges.fault(2, TWO + "team ^f;"));
        Edges.test("a floor's name for a person", () -> Edges.fault(2, TWO + "person ^f team t days 1;"));
        Edges.test("a team's name for a floor", () -> Edges.fault(2, TWO + "floor ^t desks 1 noise 0 cost 0;"));
        Edges.test("a team's name for a team", () -> Edges.fault(2, TWO + "team ^t;"));
        Edges.test("a team's name for a person", () -> Edges.fault(2, TWO + "person ^t team t days 1;"));
        Edges.test("a person's name for a floor", () -> Edges.fault(2, TWO + "floor ^p desks 1 noise 0 cost 0;"));
        Edges.test("a person's name for a team", () -> Edges.fault(2, TWO + "team ^p;"));
        Edges.test("a person's name for a person", () -> Edges.fault(2, TWO + "person ^p team t days 1;"));
        Edges.test("a name of the house before is not there", () -> {
            DeskDays x = Edges.told("team a;");
            Edges.is("house()", Edges.tell(x, "floor a desks 1 noise 0 cost 0;"), 1);
        });
        Edges.test("a name of a house with a fault is not there", () -> {
            DeskDays x = Edges.told("team b;");
            Edges.tell(x, "team a;;");
            Edges.is("house()", Edges.tell(x, "team a;"), 1);
        });
        Edges.says("3 a NAME that is none of what is asked");
        Edges.test("nobody's name", () -> Edges.fault(3, TWO + "meet ^x;"));
        Edges.test("a team is asked, a person's name", () -> Edges.fault(3, TWO + "meet ^p;"));
        Edges.test("a team is asked, a floor's name", () -> Edges.fault(3, TWO + "person x team ^f days 1;"));
        Edges.test("a person is asked, a team's name", () -> Edges.fault(3, TWO + "comes ^t 1;"));
        Edges.test("a person is asked, a floor's name", () -> Edges.fault(3, TWO + "turns ^f 1;"));
        Edges.test("a floor is asked, a team's name", () -> Edges.fault(3, TWO + "own p ^t;"));
        Edges.test("a floor is asked, a person's name", () -> Edges.fault(3, TWO + "own p ^p;"));
        Edges.test("the name that the statement itself gives", () -> Edges.fault(3, TWO + "person x team ^x days 1;"));
        Edges.test("a name that comes later", () -> Edges.fault(3, "team t;cannot ^p mon;person p team t days 1;"));
        Edges.test("a name of the house before", () -> {
            DeskDays x = Edges.told("team a;");
            Edges.is("house()", Edges.tell(x, "meet a;"), -1);
            Edges.is("fault(0)", x.fault(0), 3);
        });
        Edges.says("of a tie the second one that is the first one");
        Edges.test("the same person twice", () -> Edges.fault(3, TWO + "tie q ^q 1;"));
        Edges.test("the same nobody twice: the first one", () -> Edges.fault(3, TWO + "tie ^x x 1;"));
    }

    private static void faultOne() {
        Edges.says("1 the first byte with which no HOUSE goes on (WORDS, NUMBERS whole, at their first byte");
        Edges.test("a word that begins as an own word", () -> Edges.fault(1, "^tea a;"));
        Edges.test("a word that begins with an own word", () -> Edges.fault(1, "^teams a;"));
        Edges.test("a word cut off by the text's end", () -> Edges.fault(1, "team t;^tea"));
        Edges.test("an own word that begins no statement", () -> Edges.fault(1, "^desks 1;"));
        Edges.test("a name where a statement begins", () -> Edges.fault(1, "team a;^a;"));
        Edges.test("a number where a statement begins", () -> Edges.fault(1, "^1;"));
        Edges.test("parts of a floor out of order", () -> Edges.fault(1, "floor f ^noise 1 desks 1 cost 1;"));
        Edges.test("a part of a floor left out", () -> Edges.fault(1, "floor f desks 1 ^cost 1;"));
        Edges.test("a sign that is none of the text's", () -> Edges.fault(1, "team a^.;"));
        Edges.says("at the text's length, if it ends too soon");
        Edges.test("behind a statement's first word", () -> Edges.fault(1, "team^"));
        Edges.test("behind a name", () -> Edges.fault(1, "team a^"));
        Edges.test("behind blanks", () -> Edges.fault(1, "team a \n ^"));
        Edges.test("behind a number", () -> Edges.fault(1, "stand 5^"));
        Edges.test("inside a floor", () -> Edges.fault(1, "floor f desks^"));
        Edges.test("behind worth", () -> Edges.fault(1, "worth^"));
        Edges.test("inside a sum", () -> Edges.fault(1, "worth (1+^"));
        Edges.test("behind when", () -> Edges.fault(1, "worth 1 when^"));
        Edges.test("inside a test", () -> Edges.fault(1, "worth 1 when [not^"));
        Edges.test("behind a sign of a test", () -> Edges.fault(1, "worth 1 when 1<^"));
        Edges.test("ahead of a rule's ;", () -> Edges.fault(1, "worth 1 when all^"));
        Edges.test("at 1800 bytes", () -> Edges.fault(1, " ".repeat(1794) + "team a^"));
    }

    private static void faultOrder() {
        Edges.says("FAULTS, the first along the text");
        Edges.test("a name that is there, ahead of a number that can't be", () -> Edges.fault(2, TWO + "floor ^f desks 99 noise 0 cost 0;"));
        Edges.test("a name that is there, ahead of a word too long", () -> Edges.fault(2, "team t;team ^t abcdefg;"));
        Edges.test("a name that is there, ahead of a byte that can't be", () -> Edges.fault(2, "team t;team ^t#"));
        Edges.test("a name that is there, ahead of a number side by side", () -> Edges.fault(2, "team t;team ^t1;"));
        Edges.test("a name that is there, ahead of the text's end", () -> Edges.fault(2, "team t;team ^t"));
        Edges.test("a name not asked, ahead of a number that can't be", () -> Edges.fault(3, TWO + "likes ^t mon 100;"));
        Edges.test("a byte that can't be, ahead of a name not asked", () -> Edges.fault(1, TWO + "likes^# t mon 1;"));
        Edges.test("a number that can't be, ahead of a byte that can't", () -> Edges.fault(4, "stand ^1000#"));
        Edges.test("a number that can't be, ahead of a word side by side", () -> Edges.fault(4, "stand ^1000x;"));
        Edges.test("the first of two numbers that can't be", () -> Edges.fault(4, "visit mon ^10 101;"));
        Edges.test("one too many, ahead of a word too long", () -> Edges.fault(5, "worth 1 when all;".repeat(12) + "^worth abcdefg;"));
        Edges.test("a 9th (, ahead of what is in it", () -> Edges.fault(5, "worth ((((((((^(#"));
    }

    private static void open() {
        Edges.says("a 9th ( [ that is open at once, at itself");
        Edges.test("8 (", () -> Edges.taken("worth " + "(".repeat(8) + "1" + ")".repeat(8) + " when all;", 1));
        Edges.test("a 9th (", () -> Edges.fault(5, "worth " + "(".repeat(8) + "^(1" + ")".repeat(9) + " when all;"));
        Edges.test("8 [", () -> Edges.taken("worth 1 when " + "[".repeat(8) + "all" + "]".repeat(8) + ";", 1));
        Edges.test("a 9th [", () -> Edges.fault(5, "worth 1 when " + "[".repeat(8) + "^[all" + "]".repeat(9) + ";"));
        Edges.test("4 [ and 4 (", () -> Edges.taken("worth 1 when [[[[((((1))))=1]]]];", 1));
        Edges.test("4 [ and a 5th (", () -> Edges.fault(5, "worth 1 when [[[[((((^(1)))))=1]]]];"));
        Edges.test("7 [ and 1 (", () -> Edges.taken("worth 1 when [[[[[[[(1)=1]]]]]]];", 1));
        Edges.test("8 [ and a (", () -> Edges.fault(5, "worth 1 when [[[[[[[[^(1)=1]]]]]]]];"));
        Edges.test("8 of min", () -> Edges.taken("worth " + "min(1,".repeat(8) + "2" + ")".repeat(8) + " when all;", 1));
        Edges.test("a 9th of min", () -> Edges.fault(5, "worth " + "min(1,".repeat(8) + "min^(1,2)" + ")".repeat(8) + " when all;"));
        Edges.test("8 of max on the left", () -> Edges.taken("worth " + "max(".repeat(8) + "2" + ",1)".repeat(8) + " when all;", 1));
        Edges.test("a 9th of max on the left", () -> Edges.fault(5, "worth " + "max(".repeat(8) + "max^(2,1)" + ",1)".repeat(8) + " when all;"));
        Edges.test("those closed don't count", () -> Edges.taken("worth " + "(1)+".repeat(9) + "((((((((1)))))))) when " + "[all]and".repeat(9) + "[[[[[[[[all]]]]]]]];", 1));
        Edges.test("those of the sum don't count in the test", () -> Edges.taken("worth ((((1)))) when [[[[[[[[all]]]]]]]];", 1));
        Edges.test("those of the rule before don't count", () -> Edges.taken("worth ((((((((1)))))))) when all;".repeat(2), 2));
        Edges.test("a 9th [ where none may stand is a wrong byte", () -> Edges.fault(1, "worth ((((((((^[1;"));
        Edges.test("a 9th ( where none may stand is a wrong byte", () -> Edges.fault(1, "worth 1 when [[[[[[[[all^(1;"));
        Edges.test("not is none of them", () -> Edges.taken("worth 1 when " + "not ".repeat(400) + "all;", 1));
        Edges.test("many a not turns", () -> {
            Edges.is("400", Edges.planned(Edges.crowd(1, 1) + "worth 7 when " + "not ".repeat(400) + "all;", 1).worth(), 7);
            Edges.is("401", Edges.planned(Edges.crowd(1, 1) + "worth 7 when " + "not ".repeat(401) + "all;", 1).worth(), 0);
        });
    }

    private static void aNewObject() {
        Edges.of("promise 1");
        Edges.says("No FLOORS, no PERSONS");
        Edges.test("no floors", () -> Edges.is("has(0)", new DeskDays().has(0), 0));
        Edges.test("no persons", () -> Edges.is("has(2)", new DeskDays().has(2), 0));
        Edges.test("it is as after an empty text", () -> {
            DeskDays told = new DeskDays();
            told.house();
            Edges.is("state", Edges.state(new DeskDays()), Edges.state(told));
        });
        Edges.test("no refusals", () -> {
            for (int what = 0; what < 6; what++) Edges.is("status", new DeskDays().status(what), 0);
        });
        Edges.test("it finds, betters and rests", () -> {
            DeskDays x = new DeskDays();
            Edges.is("seek", x.seek(), 1);
            Edges.is("spent", x.spent(), 0);
            Edges.is("fewest", x.fewest(), 0);
            Edges.is("better", x.better(1), 0);
            Edges.is("free", x.free(1), 1);
            Edges.is("weeks", x.weeks(), 1);
            Edges.is("never", x.never(9), 0);
        });
        Edges.test("objects know nothing of one another", () -> {
            DeskDays other = Edges.used();
            DeskDays x = new DeskDays();
            Edges.is("has(2)", x.has(2), 0);
            Edges.is("has(2)", other.has(2), 4);
        });
    }

    private static void feed() {
        Edges.of("promise 2");
        Edges.says("Twenty bytes come behind those on the tape, of each number the highest first: how many there are");
        Edges.test("on an empty tape", () -> Edges.is("feed", new DeskDays().feed(0, 0, 0, 0, 0), 20));
        Edges.test("the highest byte of each first", () -> {
            DeskDays x = new DeskDays();
            x.feed(0x7465616d, 0x20616263, 0x6465663b, 0x7465616d, 0x20787a3b);
            Edges.is("house", x.house(), 2);
            Edges.is("letter", x.letter(1, 0, 5), 'f');
            Edges.is("letter", x.letter(1, 1, 1), 'z');
        });
        Edges.test("bytes above 127, numbers below 0", () -> {
            DeskDays x = Edges.told(Edges.crowd(1, 0, 0, 0));
            x.feed(0x03001f00, 156 << 24, 0, 0, 0);
            x.end(5);
            Edges.is("an image whose last byte is 156", x.on(), true);
            Edges.sets(x, 0, 31, 0);
        });
        Edges.test("behind a tape that was cut", () -> {
            DeskDays x = new DeskDays();
            x.feed(0x7465616d, 0x20613b00, 0, 0, 0);
            x.end(7);
            Edges.is("feed", x.feed(0x7465616d, 0x20623b20, 0x20202020, 0x20202020, 0x20202020), 27);
            Edges.is("house", x.house(), 2);
        });
        Edges.says("NONE, doing nothing, if there would be more than 1800");
        Edges.test("1800 bytes", () -> Edges.is("feed", fed(89).feed(0, 0, 0, 0, 0), 1800));
        Edges.test("1820 bytes", () -> Edges.is("feed", fed(90).feed(0, 0, 0, 0, 0), -1));
        Edges.test("1801 bytes", () -> {
            DeskDays x = fed(90);
            x.end(1781);
            Edges.is("feed", x.feed(0, 0, 0, 0, 0), -1);
        });
        Edges.test("1800 bytes, cut and full again", () -> {
            DeskDays x = fed(90);
            x.end(1780);
            Edges.is("feed", x.feed(0, 0, 0, 0, 0), 1800);
        });
        Edges.test("refused it does nothing to a full tape", () -> Edges.leaves(Edges.OF_TAPE, () -> fed(90), x -> x.feed(-1, -1, -1, -1, -1)));
        Edges.test("refused it does nothing to a tape of 1781", () -> Edges.leaves(Edges.OF_TAPE, () -> {
            DeskDays x = fed(90);
            x.end(1781);
            return x;
        }, x -> x.feed(-1, -1, -1, -1, -1)));
        Edges.test("refused it leaves all 1800 bytes", () -> {
            DeskDays x = Edges.told("stand 3;");
            Edges.tape(x, " ".repeat(1793) + "team a;");
            Edges.is("feed", x.feed(-1, -1, -1, -1, -1), -1);
            Edges.is("house", x.house(), 1);
        });
        Edges.test("a house takes the full tape away", () -> {
            DeskDays x = fed(90);
            x.house();
            Edges.is("feed", x.feed(0, 0, 0, 0, 0), 20);
        });
    }
    /** The tape has so many times twenty blanks. */
    private static DeskDays fed(int times) {
        DeskDays x = new DeskDays();
        for (int k = 0; k < times; k++) x.feed(0x20202020, 0x20202020, 0x20202020, 0x20202020, 0x20202020);
        return x;
    }

    private static void end() {
        Edges.of("promise 3");
        Edges.says("The tape has its first n bytes alone: true");
        Edges.test("n as many as there are", () -> Edges.is("end(20)", fed(1).end(20), true));
        Edges.test("n 0", () -> {
            DeskDays x = fed(1);
            Edges.is("end(0)", x.end(0), true);
            Edges.is("feed", x.feed(0, 0, 0, 0, 0), 20);
        });
        Edges.test("n 0 of an empty tape", () -> Edges.is("end(0)", new DeskDays().end(0), true));
        Edges.test("n 1800 of a full tape", () -> Edges.is("end(1800)", fed(90).end(1800), true));
        Edges.test("the first ones stay, not the last", () -> {
            DeskDays x = new DeskDays();
            Edges.tape(x, "stand 7;stand 8;");
            x.end(8);
            x.house();
            Edges.is("has(7)", x.has(7), 7);
        });
        Edges.says("false, doing nothing, if it has not so many, or n is below 0");
        Edges.test("n one more than there are", () -> Edges.is("end(21)", fed(1).end(21), false));
        Edges.test("n 1 of an empty tape", () -> Edges.is("end(1)", new DeskDays().end(1), false));
        Edges.test("n 1801 of a full tape", () -> Edges.is("end(1801)", fed(90).end(1801), false));
        Edges.test("n what was cut off", () -> {
            DeskDays x = fed(1);
            x.end(19);
            Edges.is("end(20)", x.end(20), false);
        });
        Edges.test("n -1", () -> Edges.is("end(-1)", fed(1).end(-1), false));
        Edges.test("n the least and the greatest", () -> {
            Edges.is("end(least)", fed(1).end(Edges.LEAST), false);
            Edges.is("end(greatest)", fed(1).end(Edges.MOST), false);
        });
        Edges.test("refused above it does nothing", () -> Edges.leaves(Edges.OF_TAPE, x -> x.end(9)));
        Edges.test("refused below it does nothing", () -> Edges.leaves(Edges.OF_TAPE, x -> x.end(-1)));
    }

    private static void house() {
        Edges.of("promise 4");
        Edges.says("The tape (it goes) is THE HOUSE: how many STATEMENTS");
        Edges.test("an empty tape is a house of none", () -> {
            DeskDays x = Edges.told("team t;person p team t days 1;");
            Edges.is("house", x.house(), 0);
            Edges.is("has(1)", x.has(1), 0);
            Edges.is("has(2)", x.has(2), 0);
        });
        Edges.test("1800 bytes", () -> Edges.taken("stand 1;".repeat(225), 225));
        Edges.test("the tape goes", () -> {
            DeskDays x = Edges.told("team t;");
            Edges.is("end(1)", x.end(1), false);
            Edges.is("feed", x.feed(0, 0, 0, 0, 0), 20);
        });
        Edges.test("the tape goes with a fault too", () -> {
            DeskDays x = new DeskDays();
            Edges.is("house", Edges.tell(x, "team ;"), -1);
            Edges.is("end(1)", x.end(1), false);
            Edges.is("feed", x.feed(0, 0, 0, 0, 0), 20);
        });
        cutOff("team a^b;", 1);
        cutOff("stand 1^2;", 1);
        cutOff("team a ^ ;", 1);
        cutOff("team a^;", 1);
        cutOff("stand 12^ 3;", 1);
        Edges.test("what stood behind the cut, the cut being right behind ;", () -> {
            DeskDays x = new DeskDays();
            Edges.tape(x, "team a;team b;");
            x.end(7);
            Edges.is("house", x.house(), 1);
        });
        Edges.test("a rule of 1800 bytes, house after house", () -> {
            for (int times = 1; times <= 4; times++) {
                DeskDays x = new DeskDays();
                String start = Edges.crowd(1, 1) + "worth 1";
                String rest = " when all;";
                String text = start + "+1".repeat((1800 - start.length() - rest.length()) / 2) + rest;
                for (int k = 0; k < times; k++) Edges.is("house", Edges.tell(x, text), 4);
                x.put(0, 1);
                Edges.is("worth", x.worth(), (1800 - start.length() - rest.length()) / 2 + 1);
            }
        });
        Edges.test("a shorter rule behind a longer one", () -> {
            String[] shorter = {"5 when all", "5 when 1=1", "5+6 when all", "5+6 when 1=1", "5*6+7 when not 1=2", "5 when 1=1 or all", "min(5,6) when all"};
            int[] want = {5, 5, 11, 11, 37, 5, 5};
            for (int k = 0; k < shorter.length; k++) {
                DeskDays x = new DeskDays();
                for (int times = 0; times < 3; times++) Edges.tell(x, Edges.crowd(1, 1) + "worth 5+6*7-8/9+max(1,2) when 1+2<3 and not[4=5 or 6*7>8];");
                Edges.tell(x, Edges.crowd(1, 1) + "worth " + shorter[k] + ";");
                x.put(0, 1);
                Edges.is("worth " + shorter[k], x.worth(), want[k]);
            }
        });
        Edges.says("NONE with a FAULT (all stays)");
        for (String wrong : new String[] {"x", "team a;team a;", "meet x;", "stand 1000;", "worth 1 when all;".repeat(13), "team a"}) {
            Edges.test("house, plan, seed, image and the rest stay with a fault: " + wrong, () -> {
                DeskDays with = Edges.used();
                DeskDays without = Edges.used();
                without.end(0);
                Edges.is("house", Edges.tell(with, wrong), -1);
                // what it must change: its fault, refusals and the tape
                Edges.is("status(1)", with.status(1), without.status(1) + 1);
                Edges.is("all else", Edges.state(with).replaceAll(" fault -?\\d+ -?\\d+", ""), Edges.state(without).replaceAll(" fault -?\\d+ -?\\d+", ""));
            });
        }
        Edges.test("a fault behind many statements leaves nothing of them", () -> {
            DeskDays x = Edges.told("team t;person p team t days 1;");
            Edges.tell(x, TWO + "own p f;meet t;stand 1;visit mon 1 1;worth 1 when all;tie p q 1;#");
            Edges.is("floors", x.has(0), 0);
            Edges.is("persons", x.has(2), 1);
            Edges.is("ties", x.has(3), 0);
            Edges.is("rules", x.has(6), 0);
            Edges.is("stand", x.has(7), 50);
            Edges.is("meet", x.has(8), 0);
            Edges.is("visitors", x.day(0, 2), 0);
        });
        Edges.says("Without one THE PLAN is empty; THE SEED and REFUSALS stay");
        Edges.test("the plan is empty, the house being the same", () -> {
            DeskDays x = Edges.planned(TWO, 1, 2, 4);
            Edges.tell(x, TWO);
            Edges.sets(x, 0, 0, 0);
        });
        Edges.test("persons that were not there have none", () -> {
            DeskDays x = Edges.planned(TWO, 1, 2, 31);
            Edges.tell(x, "team t;person p team t days 1;");
            Edges.tell(x, TWO);
            Edges.sets(x, 0, 0, 0);
        });
        Edges.test("the seed stays", () -> {
            DeskDays x = Edges.told("visit mon 9 50;");
            DeskDays y = Edges.told("visit mon 9 50;");
            x.seed(12345);
            y.seed(12345);
            x.draw(0);
            y.draw(0);
            Edges.tell(x, "visit mon 9 50;");
            Edges.is("draw", x.draw(0), y.draw(0));
        });
        Edges.test("refusals stay", () -> {
            DeskDays x = new DeskDays();
            x.end(-1);
            Edges.tell(x, "#");
            x.put(0, 0);
            x.better(0);
            x.seed(-1);
            x.on();
            Edges.tell(x, TWO);
            for (int what = 0; what < 6; what++) Edges.is("status", x.status(what), 1);
        });
        Edges.test("nothing of houses before stays, in whatever place they were read", () -> {
            StringBuilder rich = new StringBuilder("floor f desks 20 noise 9 cost 9;floor g desks 20 noise 9 cost 9;team t;team u;meet t;meet u;stand 9;");
            for (int p = 0; p < 3; p++) rich.append("person p").append((char) ('a' + p)).append(" team t days 3;");
            for (int p = 0; p < 3; p++) {
                String who = "p" + (char) ('a' + p);
                rich.append("own ").append(who).append(" f;comes ").append(who).append(" 9;turns ").append(who).append(" 3;");
                for (String day : Edges.WEEK) rich.append("cannot ").append(who).append(' ').append(day).append(";likes ").append(who).append(' ').append(day).append(" 9;");
            }
            for (String day : Edges.WEEK) rich.append("visit ").append(day).append(" 9 9;");
            rich.append("tie pa pb 9;tie pb pc 9;tie pa pc 9;worth 9 when all;worth 8 when all;");
            String plain = "floor f desks 1 noise 0 cost 0;team t;team u;person pa team t days 1;person pb team u days 1;person pc team u days 1;"
                + "worth 2 when day=1;tie pa pc 1;";
            for (int times = 1; times <= 4; times++) {
                DeskDays x = new DeskDays();
                DeskDays fresh = new DeskDays();
                for (int k = 0; k < times; k++) Edges.tell(x, rich.toString());
                Edges.tell(x, plain);
                Edges.tell(fresh, plain);
                for (int p = 0; p < 3; p++) {
                    x.put(p, 3 + p);
                    fresh.put(p, 3 + p);
                }
                Edges.is("behind " + times, Edges.state(x), Edges.state(fresh));
            }
        });
        Edges.test("nothing of a house with a fault stays, in whatever place it was read", () -> {
            String plain = "floor f desks 1 noise 0 cost 0;team t;person pa team t days 1;";
            DeskDays x = new DeskDays();
            DeskDays fresh = new DeskDays();
            for (int k = 0; k < 3; k++) {
                Edges.tell(x, "floor f desks 9 noise 9 cost 9;team t;meet t;person pa team t days 3;cannot pa mon;likes pa tue 9;own pa f;visit mon 9 9;stand 9;worth 9 when all;#");
                Edges.tell(x, plain);
            }
            Edges.tell(fresh, plain);
            x.put(0, 31);
            fresh.put(0, 31);
            Edges.is("state", Edges.state(x), Edges.state(fresh));
        });
        Edges.test("nothing of the house before stays", () -> {
            DeskDays x = Edges.used();
            Edges.tell(x, TWO);
            DeskDays fresh = new DeskDays();
            fresh.seed(99);
            Edges.tell(fresh, TWO);
            for (int what = 0; what <= 8; what++) Edges.is("has", x.has(what), fresh.has(what));
            for (int p = 0; p < 3; p++) for (int what = 0; what < 8; what++) Edges.is("person", x.person(p, what), fresh.person(p, what));
            for (int d = 0; d < 5; d++) Edges.is("day", x.day(d, 2), 0);
            x.put(0, 31);
            Edges.is("likes, rules", x.worth(), 0);
        });
    }

    /** The text ends at the mark; the tape had more, which is not read. */
    private static void cutOff(String marked, int fault) {
        Edges.test("what stood behind the cut: " + marked, () -> {
            int size = marked.indexOf('^');
            DeskDays x = new DeskDays();
            Edges.tape(x, marked.replace("^", ""));
            x.end(size);
            Edges.is("house", x.house(), -1);
            Edges.is("fault(0)", x.fault(0), fault);
            Edges.is("fault(1)", x.fault(1), size);
        });
    }

    private static void faultCall() {
        Edges.of("promise 5");
        Edges.says("its FAULT (what 0; 0 without, and ahead of any), its place (1; NONE without)");
        Edges.test("ahead of any house", () -> {
            Edges.is("fault(0)", new DeskDays().fault(0), 0);
            Edges.is("fault(1)", new DeskDays().fault(1), -1);
        });
        Edges.test("a place of 0", () -> Edges.fault(1, "^#"));
        Edges.test("of the latest house, with another fault", () -> {
            DeskDays x = new DeskDays();
            Edges.tell(x, "stand 1000;");
            Edges.tell(x, "#");
            Edges.is("fault(0)", x.fault(0), 1);
            Edges.is("fault(1)", x.fault(1), 0);
        });
        Edges.test("of the latest house, without one", () -> {
            DeskDays x = new DeskDays();
            Edges.tell(x, "stand 1000;");
            x.house();
            Edges.is("fault(0)", x.fault(0), 0);
            Edges.is("fault(1)", x.fault(1), -1);
        });
        Edges.test("row and on leave it", () -> {
            DeskDays x = new DeskDays();
            Edges.tell(x, "stand 1000;");
            x.row();
            x.on();
            Edges.is("fault(0)", x.fault(0), 4);
            Edges.is("fault(1)", x.fault(1), 6);
        });
        Edges.says("NONE for another what");
        for (int what : new int[] {2, -1, Edges.LEAST, Edges.MOST}) {
            Edges.test("what " + what, () -> {
                DeskDays x = new DeskDays();
                Edges.is("without a fault", x.fault(what), -1);
                Edges.tell(x, "#");
                Edges.is("with one", x.fault(what), -1);
            });
        }
    }

    private static void has() {
        Edges.of("promise 6");
        Edges.says("How many there are: 0 FLOORS, 1 TEAMS, 2 PERSONS, 3 TIES, 4 DESKS, 5 OWNED, 6 RULES, 7 STAND, 8 TEAMS that must meet");
        Edges.test("nothing but STAND at first", () -> {
            for (int what = 0; what <= 8; what++) Edges.is("has(" + what + ")", new DeskDays().has(what), what == 7 ? 50 : 0);
        });
        Edges.test("100 desks", () -> Edges.is("has(4)", Edges.told(named(5, "floor ", 'f', " desks 20 noise 0 cost 0;")).has(4), 100));
        Edges.test("all desks owned", () -> Edges.is("has(5)", Edges.told(TWO + "own p f;own q f;own r g;").has(5), 3));
        Edges.test("all 6 teams must meet", () -> Edges.is("has(8)", Edges.told(named(6, "team ", 't', ";") + named(6, "meet ", 't', ";")).has(8), 6));
        Edges.test("each tie counts, one of the same two as well", () -> Edges.is("has(3)", Edges.told(TWO + "tie p q 1;tie p q 1;tie q p 1;").has(3), 3));
        Edges.says("NONE for others");
        for (int what : new int[] {9, -1, Edges.LEAST, Edges.MOST}) Edges.test("what " + what, () -> Edges.is("has", Edges.told(TWO).has(what), -1));
    }

    private static void letter() {
        String text = "floor one desks 1 noise 0 cost 0;team abcdef;person z team abcdef days 0;person yy team abcdef days 0;";
        Edges.of("promise 7");
        Edges.says("Letter k of the NAME of a FLOOR (kind 0), TEAM (1), PERSON (2), 97 .. 122");
        Edges.test("97 and 122", () -> {
            Edges.is("a", Edges.told(text).letter(1, 0, 0), 97);
            Edges.is("z", Edges.told(text).letter(2, 0, 0), 122);
        });
        for (String name : new String[] {"a", "z", "az", "za", "aaaaaa", "zzzzzz", "azazaz", "zazaza", "pppppp"}) {
            Edges.test("all of " + name, () -> {
                DeskDays x = Edges.told("team " + name + ";");
                for (int k = 0; k < name.length(); k++) Edges.is("letter " + k, x.letter(1, 0, k), name.charAt(k));
                Edges.is("behind", x.letter(1, 0, name.length()), -1);
            });
        }
        Edges.test("the last of 6", () -> Edges.is("letter", Edges.told(text).letter(1, 0, 5), 'f'));
        Edges.test("the last person's", () -> Edges.is("letter", Edges.told(text).letter(2, 1, 1), 'y'));
        Edges.says("NONE if there is none such");
        Edges.test("a 7th letter", () -> Edges.is("letter", Edges.told(text).letter(1, 0, 6), -1));
        Edges.test("behind a name of 1 letter", () -> Edges.is("letter", Edges.told(text).letter(2, 0, 1), -1));
        Edges.test("behind a name of 3 letters", () -> Edges.is("letter", Edges.told(text).letter(0, 0, 3), -1));
        for (int k : new int[] {-1, 12, Edges.LEAST, Edges.MOST}) Edges.test("k " + k, () -> Edges.is("letter", Edges.told(text).letter(1, 0, k), -1));
        for (int kind : new int[] {-1, 3, Edges.LEAST, Edges.MOST}) Edges.test("kind " + kind, () -> Edges.is("letter", Edges.told(text).letter(kind, 0, 0), -1));
        Edges.test("one floor too far", () -> Edges.is("letter", Edges.told(text).letter(0, 1, 0), -1));
        Edges.test("one team too far", () -> Edges.is("letter", Edges.told(text).letter(1, 1, 0), -1));
        Edges.test("one person too far", () -> Edges.is("letter", Edges.told(text).letter(2, 2, 0), -1));
        for (int which : new int[] {-1, 12, Edges.LEAST, Edges.MOST}) {
            Edges.test("which " + which, () -> {
                for (int kind = 0; kind < 3; kind++) Edges.is("letter", Edges.told(text).letter(kind, which, 0), -1);
            });
        }
        Edges.test("of a house before that had more", () -> {
            DeskDays x = Edges.told(text);
            Edges.tell(x, "team a;");
            Edges.is("floor", x.letter(0, 0, 0), -1);
            Edges.is("team", x.letter(1, 0, 1), -1);
            Edges.is("person", x.letter(2, 0, 0), -1);
        });
        Edges.test("ahead of any house", () -> {
            for (int kind = 0; kind < 3; kind++) Edges.is("letter", new DeskDays().letter(kind, 0, 0), -1);
        });
    }

    private static void person() {
        Edges.of("promise 8");
        Edges.says("4 the FLOOR of its own desk (NONE without)");
        Edges.test("without", () -> Edges.is("person(0, 4)", Edges.told(TWO).person(0, 4), -1));
        Edges.test("with", () -> Edges.is("person(2, 4)", Edges.told(TWO + "own r g;").person(2, 4), 1));
        Edges.says("7 how many SETS SUIT");
        int[] counts = {1, 5, 10, 10, 5, 1};
        for (int d = 0; d <= 5; d++) {
            int days = d;
            Edges.test(days + " days", () -> Edges.is("person(0, 7)", Edges.told(Edges.crowd(1, days)).person(0, 7), counts[days]));
        }
        Edges.test("as many days as it can", () -> Edges.is("person(0, 7)", Edges.told(Edges.crowd(1, 4) + "cannot pa wed;").person(0, 7), 1));
        Edges.test("one day more than it can", () -> Edges.is("person(0, 7)", Edges.told(Edges.crowd(1, 5) + "cannot pa wed;").person(0, 7), 0));
        Edges.test("it can't on any day: one set of no days", () -> Edges.is("person(0, 7)", Edges.told(Edges.crowd(1, 0) + cannotAll("pa")).person(0, 7), 1));
        Edges.test("it can't on any day: none of one day", () -> Edges.is("person(0, 7)", Edges.told(Edges.crowd(1, 1) + cannotAll("pa")).person(0, 7), 0));
        Edges.says("NONE if there is none such, or for others");
        for (int what : new int[] {8, -1, Edges.LEAST, Edges.MOST}) Edges.test("what " + what, () -> Edges.is("person", Edges.told(TWO).person(0, what), -1));
        for (int p : new int[] {3, -1, 12, Edges.LEAST, Edges.MOST}) {
            Edges.test("person " + p, () -> {
                for (int what = 0; what < 8; what++) Edges.is("person", Edges.told(TWO).person(p, what), -1);
            });
        }
        Edges.test("the 12th", () -> Edges.is("person(11, 1)", Edges.told(Edges.crowd(1, Edges.alike(12, 3))).person(11, 1), 3));
        Edges.test("a 13th", () -> Edges.is("person(12, 1)", Edges.told(Edges.crowd(1, Edges.alike(12, 3))).person(12, 1), -1));
    }
    private static String cannotAll(String who) {
        StringBuilder s = new StringBuilder();
        for (String day : Edges.WEEK) s.append("cannot ").append(who).append(' ').append(day).append(';');
        return s.toString();
    }

    private static void floor() {
        Edges.of("promise 9");
        Edges.says("Of a FLOOR: 0 desks, 1 noise, 2 cost, 3 those OWNED. NONE likewise");
        Edges.test("none owned", () -> Edges.is("floor(0, 3)", Edges.told(TWO).floor(0, 3), 0));
        Edges.test("all owned", () -> Edges.is("floor(1, 3)", Edges.told(TWO + "own q g;").floor(1, 3), 1));
        Edges.test("owned ones of the house before are gone", () -> {
            DeskDays x = Edges.told(TWO + "own p f;own q f;");
            Edges.tell(x, TWO);
            Edges.tell(x, TWO);
            Edges.is("floor(0, 3)", x.floor(0, 3), 0);
            Edges.is("has(5)", x.has(5), 0);
        });
        Edges.test("the 5th", () -> Edges.is("floor(4, 0)", Edges.told(named(5, "floor ", 'f', " desks 20 noise 0 cost 0;")).floor(4, 0), 20));
        for (int what : new int[] {4, -1, Edges.LEAST, Edges.MOST}) Edges.test("what " + what, () -> Edges.is("floor", Edges.told(TWO).floor(0, what), -1));
        for (int f : new int[] {3, -1, 5, Edges.LEAST, Edges.MOST}) {
            Edges.test("floor " + f, () -> {
                for (int what = 0; what < 4; what++) Edges.is("floor", Edges.told(TWO).floor(f, what), -1);
            });
        }
    }
}
