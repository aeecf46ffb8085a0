/** Boundaries of Terms II (sets, who stands, what holds, worth) and of promises 10 to 15. */
final class PlanEdges {
    private PlanEdges() {
    }

    static void all() {
        Edges.of("Terms II");
        sets();
        standing();
        holding();
        worthTerms();
        put();
        row();
        day();
        met();
        judge();
        worth();
    }

    private static void sets() {
        Edges.says("THE PLAN has a SET for each PERSON (none at first)");
        Edges.test("none at first", () -> Edges.sets(Edges.told(Edges.crowd(1, Edges.alike(12, 5))), new int[12]));
        Edges.says("A SET of DAYS is told by bits (mon is 1, tue 2, .. fri 16)");
        for (int d = 0; d < 5; d++) {
            int day = d;
            Edges.test("bit of " + Edges.WEEK[d], () -> {
                DeskDays x = Edges.planned(Edges.crowd(1, 1), 1 << day);
                for (int other = 0; other < 5; other++) Edges.is("day " + other, x.day(other, 0), other == day ? 1 : 0);
            });
        }
        Edges.says("A SET SUITS a PERSON, if it has as many DAYS as the PERSON and none that it cannot");
        Edges.test("no days: the empty set", () -> Edges.is("judge", Edges.planned(Edges.crowd(1, 0), 0).judge(0), 0));
        Edges.test("5 days: the full set", () -> Edges.is("judge", Edges.planned(Edges.crowd(1, 5), 31).judge(0), 0));
        Edges.test("a day less", () -> Edges.is("judge", Edges.planned(Edges.crowd(1, 5), 30).judge(0), 2));
        Edges.test("a day more", () -> Edges.is("judge", Edges.planned(Edges.crowd(1, 4), 31).judge(0), 2));
        Edges.test("one of them it cannot", () -> Edges.is("judge", Edges.planned(Edges.crowd(1, 1) + "cannot pa fri;", 16).judge(0), 1));
    }

    /** How many stand on mon: so many desks, so many owned, owners in, others in. */
    private static int standing(int desks, int owned, int owners, int others) {
        StringBuilder s = new StringBuilder(Edges.crowd(desks, Edges.alike(12, 1)));
        for (int p = 0; p < owned; p++) s.append("own p").append((char) ('a' + p)).append(" f;");
        DeskDays x = Edges.told(s.toString());
        for (int p = 0; p < owners; p++) x.put(p, 1);
        for (int p = owned; p < owned + others; p++) x.put(p, 1);
        return x.day(0, 1);
    }
    private static void standing() {
        Edges.says("of all others who are IN as many STAND as there are more of them than DESKS less OWNED");
        Edges.test("as many as desks", () -> Edges.is("stand", standing(3, 0, 0, 3), 0));
        Edges.test("one more than desks", () -> Edges.is("stand", standing(3, 0, 0, 4), 1));
        Edges.test("one less than desks", () -> Edges.is("stand", standing(3, 0, 0, 2), 0));
        Edges.test("nobody", () -> Edges.is("stand", standing(0, 0, 0, 0), 0));
        Edges.test("no desks", () -> Edges.is("stand", standing(0, 0, 0, 12), 12));
        Edges.test("own desks and as many others as are left", () -> Edges.is("stand", standing(3, 2, 2, 1), 0));
        Edges.test("own desks and one more than are left", () -> Edges.is("stand", standing(3, 2, 2, 2), 1));
        Edges.test("owners who are away leave no desk", () -> Edges.is("stand", standing(3, 2, 0, 2), 1));
        Edges.test("all desks owned: owners sit", () -> Edges.is("stand", standing(3, 3, 3, 0), 0));
        Edges.test("all desks owned: others stand", () -> Edges.is("stand", standing(3, 3, 0, 1), 1));
        Edges.test("no floor", () -> Edges.is("stand", Edges.planned("team t;person p team t days 1;", 1).day(0, 1), 1));
        Edges.test("visitors don't", () -> Edges.is("stand", Edges.planned(Edges.crowd(1, 1) + "visit mon 9 100;", 1).day(0, 1), 0));
    }

    private static void judged(DeskDays x, int number, int which, int day) {
        Edges.is("judge(0)", x.judge(0), number);
        Edges.is("judge(1)", x.judge(1), which);
        Edges.is("judge(2)", x.judge(2), day);
    }
    private static void holding() {
        String all = Edges.crowd(1, 1, 1, 2) + "cannot pb tue;cannot pb wed;cannot pc mon;meet t;";
        Edges.says("the first that is wrong, by these numbers, then by PERSONS, DAYS, TEAMS");
        Edges.test("1 of a later person is ahead of 2 of an earlier one", () -> judged(Edges.planned(all, 3, 1, 3), 1, 2, 0));
        Edges.test("2 of a later person is ahead of 3", () -> judged(Edges.planned(all, 1, 1, 2), 2, 2, -1));
        Edges.test("3 on fri is ahead of 4", () -> judged(Edges.planned(all, 1, 16, 18), 3, 4, -1));
        Edges.test("4 is the last", () -> judged(Edges.planned(all, 1, 8, 18), 4, 0, -1));
        Edges.test("1: the first person, though a later one has an earlier day", () -> judged(Edges.planned(all, 1, 4, 1), 1, 1, 2));
        Edges.test("1: the first day of a person", () -> judged(Edges.planned(all, 1, 6, 6), 1, 1, 1));
        Edges.test("2: the first person", () -> judged(Edges.planned(all, 0, 0, 0), 2, 0, -1));
        Edges.test("3: the first day", () -> judged(Edges.planned(Edges.crowd(1, 2, 2), 24, 24), 3, 3, -1));
        Edges.test("3: fri", () -> judged(Edges.planned(Edges.crowd(0, 1), 16), 3, 4, -1));
        Edges.test("4: the first team", () -> judged(Edges.planned("floor f desks 9 noise 0 cost 0;team s;team t;team u;person a team u days 1;"
            + "person b team u days 1;person c team t days 1;person d team t days 1;meet u;meet t;", 1, 2, 1, 2), 4, 1, -1));
        Edges.test("4: a team that needn't meet is none", () -> judged(Edges.planned(Edges.crowd(9, 1, 1), 1, 2), 0, -1, -1));
        Edges.test("4: fri is a day", () -> judged(Edges.planned(Edges.crowd(9, 1, 2) + "meet t;", 16, 17), 0, -1, -1));
        Edges.test("4: all but one are in", () -> judged(Edges.planned(Edges.crowd(9, 1, 1, 1) + "meet t;", 1, 1, 2), 4, 0, -1));
        Edges.test("4: each two meet, but not all at once", () -> judged(Edges.planned(Edges.crowd(9, 2, 2, 2) + "meet t;", 3, 6, 5), 4, 0, -1));
        Edges.test("4: a team of one with a day", () -> judged(Edges.planned(Edges.crowd(9, 1) + "meet t;", 1), 0, -1, -1));
        Edges.test("4: a team of one without days", () -> judged(Edges.planned(Edges.crowd(9, 0) + "meet t;", 0), 4, 0, -1));
        Edges.test("4: the last of 6 teams", () -> judged(Edges.planned("floor f desks 9 noise 0 cost 0;team a;team b;team c;team d;team e;team z;"
            + "person p team z days 1;person q team z days 1;meet z;", 1, 2), 4, 5, -1));
        Edges.test("4: 6 teams, all meet", () -> judged(Edges.planned("floor f desks 9 noise 0 cost 0;team a;team b;team c;team d;team e;team z;"
            + "person p team z days 1;person q team z days 1;meet z;meet a;meet b;meet c;meet d;meet e;", 1, 1), 0, -1, -1));
        Edges.says("(none of a TEAM without PERSONS)");
        Edges.test("a team without persons", () -> judged(Edges.told("team t;meet t;"), 0, -1, -1));
        Edges.test("a team without persons beside one with", () -> judged(Edges.planned("floor f desks 1 noise 0 cost 0;team s;team t;"
            + "person p team t days 1;meet s;meet t;", 1), 0, -1, -1));
        Edges.test("nobody: it holds", () -> judged(new DeskDays(), 0, -1, -1));
    }

    private static void worthTerms() {
        Edges.says("of each TIE its number times the DAYS on which both are IN");
        Edges.test("no day", () -> Edges.is("worth", Edges.planned(Edges.crowd(9, 1, 1) + "tie pa pb 7;", 5, 10).worth(), 0));
        Edges.test("all days", () -> Edges.is("worth", Edges.planned(Edges.crowd(9, 1, 1) + "tie pa pb 7;", 31, 31).worth(), 35));
        Edges.test("each tie of the same two", () -> Edges.is("worth", Edges.planned(Edges.crowd(9, 1, 1) + "tie pa pb 7;tie pb pa 2;", 1, 1).worth(), 9));
        Edges.test("days that it cannot count too", () -> Edges.is("worth", Edges.planned(Edges.crowd(0, 1, 1) + "tie pa pb 7;cannot pa mon;", 1, 1).worth(), 7));
        Edges.says("the SUM of the first RULE whose TEST holds");
        Edges.test("no rule", () -> Edges.is("worth", Edges.planned(Edges.crowd(9, 1), 31).worth(), 0));
        Edges.test("none holds", () -> Edges.is("worth", Edges.planned(Edges.crowd(9, 1) + "worth 5 when not all;worth 6 when 1=2;", 31).worth(), 0));
        Edges.test("the first one", () -> Edges.is("worth", Edges.planned(Edges.crowd(9, 1) + "worth 5 when all;worth 6 when all;", 1).worth(), 5));
        Edges.test("the first one being 0", () -> Edges.is("worth", Edges.planned(Edges.crowd(9, 1) + "worth 0 when all;worth 6 when all;", 1).worth(), 0));
        Edges.test("none of 12 holds", () -> Edges.is("worth", Edges.planned(Edges.crowd(9, 1) + "worth 5 when not all;".repeat(12), 1).worth(), 0));
        Edges.test("the 12th", () -> Edges.is("worth", Edges.planned(Edges.crowd(9, 1) + "worth 5 when not all;".repeat(11) + "worth 6 when all;", 1).worth(), 6));
        Edges.test("nobody in", () -> Edges.is("worth", Edges.told(Edges.crowd(9, 1) + "worth 5 when all;").worth(), 0));
        Edges.says("(A SUM may be below 0.)");
        Edges.test("below 0", () -> Edges.is("worth", Edges.planned(Edges.crowd(9, 1) + "worth 0-5 when all;", 31).worth(), -25));
        Edges.test("least of all", () -> Edges.is("worth", Edges.planned(Edges.crowd(20, Edges.alike(12, 5)) + "worth 0-9999*9999 when all;",
            Edges.alike(12, 31)).worth(), -60000000));
        Edges.test("most of all by rules", () -> Edges.is("worth", Edges.planned(Edges.crowd(20, Edges.alike(12, 5)) + "worth 9999*9999 when all;",
            Edges.alike(12, 31)).worth(), 60000000));
        Edges.test("many a one in counts for many", () -> Edges.is("worth", Edges.planned(Edges.crowd(3, Edges.alike(12, 1)) + "worth many when all;",
            Edges.alike(12, 1)).worth(), 144));
        Edges.test("room is all desks, owned ones too", () -> Edges.is("worth", Edges.planned(Edges.crowd(3, 1, 1) + "own pa f;worth room when all;", 0, 1).worth(), 3));
    }

    private static void put() {
        Edges.of("promise 10");
        Edges.says("A PERSON has this SET: true");
        Edges.test("set 0", () -> Edges.is("put", Edges.planned(Edges.crowd(1, 1), 9).put(0, 0), true));
        Edges.test("set 31", () -> Edges.is("put", Edges.told(Edges.crowd(1, 1)).put(0, 31), true));
        Edges.test("the last person", () -> {
            DeskDays x = Edges.told(Edges.crowd(1, 1, 1));
            Edges.is("put", x.put(1, 5), true);
            Edges.sets(x, 0, 5);
        });
        Edges.test("a set that does not suit", () -> {
            DeskDays x = Edges.told(Edges.crowd(0, 1) + "cannot pa mon;");
            Edges.is("put", x.put(0, 3), true);
            Edges.sets(x, 3);
        });
        Edges.says("false if there is none such, or it is not 0 .. 31");
        for (int set : new int[] {32, -1, 63, Edges.LEAST, Edges.MOST}) {
            Edges.test("set " + set, () -> {
                Edges.is("put", Edges.told(Edges.crowd(1, 1)).put(0, set), false);
                Edges.leaves(Edges.OF_SET, x -> x.put(0, set));
            });
        }
        for (int p : new int[] {4, -1, 12, Edges.LEAST, Edges.MOST}) {
            Edges.test("person " + p, () -> {
                Edges.is("put", Edges.used().put(p, 1), false);
                Edges.leaves(Edges.OF_SET, x -> x.put(p, 1));
            });
        }
        Edges.test("nobody there", () -> Edges.is("put", new DeskDays().put(0, 0), false));
        Edges.test("both wrong is one refusal", () -> Edges.leaves(Edges.OF_SET, x -> x.put(-1, -1)));
    }

    private static DeskDays taped(String bytes) {
        DeskDays x = Edges.used();
        Edges.tape(x, bytes);
        return x;
    }
    private static void noRow(String name, String bytes) {
        Edges.test(name, () -> {
            Edges.is("row", taped(bytes).row(), false);
            Edges.leaves(Edges.OF_SET, () -> taped(bytes), x -> x.row());
        });
    }
    private static void row() {
        Edges.of("promise 11");
        Edges.says("THE PLAN comes as a row, the tape (it goes), a byte (0 .. 31) for each PERSON: true");
        Edges.test("bytes 0 and 31", () -> {
            DeskDays x = taped(Edges.bytes(0, 31, 0, 31));
            Edges.is("row", x.row(), true);
            Edges.sets(x, 0, 31, 0, 31);
        });
        Edges.test("the tape goes", () -> {
            DeskDays x = taped(Edges.bytes(1, 1, 1, 1));
            x.row();
            Edges.is("end(1)", x.end(1), false);
            Edges.is("feed", x.feed(0, 0, 0, 0, 0), 20);
        });
        Edges.test("nobody, an empty tape", () -> {
            DeskDays x = new DeskDays();
            Edges.is("row", x.row(), true);
            Edges.is("status(2)", x.status(2), 0);
        });
        Edges.test("12 persons", () -> {
            DeskDays x = Edges.told(Edges.crowd(1, Edges.alike(12, 1)));
            Edges.tape(x, Edges.bytes(0, 1, 2, 3, 4, 5, 6, 7, 8, 9, 10, 31));
            Edges.is("row", x.row(), true);
            Edges.sets(x, 0, 1, 2, 3, 4, 5, 6, 7, 8, 9, 10, 31);
        });
        Edges.says("false, doing nothing, if it is not such");
        noRow("a byte of 32, the last one", Edges.bytes(1, 2, 3, 32));
        noRow("a byte of 32, the first one", Edges.bytes(32, 1, 2, 3));
        noRow("a byte of 255", Edges.bytes(1, 255, 2, 3));
        noRow("a byte too few", Edges.bytes(1, 2, 3));
        noRow("a byte too many", Edges.bytes(1, 2, 3, 4, 5));
        noRow("an empty tape", "");
        Edges.test("nobody, a byte", () -> {
            DeskDays x = new DeskDays();
            Edges.tape(x, Edges.bytes(0));
            Edges.is("row", x.row(), false);
            Edges.is("status(2)", x.status(2), 1);
        });
        Edges.test("refused the tape stays, and may be cut to be one", () -> {
            DeskDays x = taped(Edges.bytes(1, 2, 3, 4, 32));
            Edges.is("row", x.row(), false);
            Edges.is("end(4)", x.end(4), true);
            Edges.is("row", x.row(), true);
            Edges.sets(x, 1, 2, 3, 4);
        });
    }

    private static void day() {
        Edges.of("promise 12");
        Edges.says("Of a DAY: 0 how many are IN, 1 how many of them STAND, 2 how many visitors there may be");
        Edges.test("nobody", () -> {
            for (int what = 0; what < 3; what++) Edges.is("day", Edges.told(Edges.crowd(0, 1)).day(0, what), 0);
        });
        Edges.test("all 12 on fri", () -> Edges.is("day(4, 0)", Edges.planned(Edges.crowd(0, Edges.alike(12, 1)), Edges.alike(12, 16)).day(4, 0), 12));
        Edges.test("none but on fri", () -> Edges.is("day(3, 0)", Edges.planned(Edges.crowd(0, Edges.alike(12, 1)), Edges.alike(12, 16)).day(3, 0), 0));
        Edges.test("9 visitors on fri", () -> Edges.is("day(4, 2)", Edges.told("visit fri 9 0;").day(4, 2), 9));
        Edges.says("NONE if there is none such, or for others");
        for (int d : new int[] {5, -1, Edges.LEAST, Edges.MOST}) {
            Edges.test("day " + d, () -> {
                for (int what = 0; what < 3; what++) Edges.is("day", Edges.used().day(d, what), -1);
            });
        }
        for (int what : new int[] {3, -1, Edges.LEAST, Edges.MOST}) Edges.test("what " + what, () -> Edges.is("day", Edges.used().day(0, what), -1));
    }

    private static void met() {
        Edges.of("promise 13");
        Edges.says("On how many DAYS both of TIE k are IN; NONE if there is none such");
        String text = Edges.crowd(9, 1, 1, 1) + "tie pa pb 0;" + "tie pa pc 1;".repeat(29);
        Edges.test("no days", () -> Edges.is("met(0)", Edges.planned(text, 21, 10).met(0), 0));
        Edges.test("5 days", () -> Edges.is("met(0)", Edges.planned(text, 31, 31).met(0), 5));
        Edges.test("fri alone", () -> Edges.is("met(0)", Edges.planned(text, 17, 18).met(0), 1));
        Edges.test("the 30th", () -> Edges.is("met(29)", Edges.planned(text, 7, 0, 6).met(29), 2));
        Edges.test("a 31st", () -> Edges.is("met(30)", Edges.planned(text, 7, 0, 6).met(30), -1));
        for (int k : new int[] {3, -1, Edges.LEAST, Edges.MOST}) Edges.test("tie " + k, () -> Edges.is("met", Edges.used().met(k), -1));
        Edges.test("no ties", () -> Edges.is("met(0)", Edges.told(Edges.crowd(1, 1)).met(0), -1));
        Edges.test("ties of the house before", () -> {
            DeskDays x = Edges.told(text);
            Edges.tell(x, Edges.crowd(9, 1, 1, 1));
            Edges.is("met(0)", x.met(0), -1);
        });
    }

    private static void judge() {
        Edges.of("promise 14");
        Edges.says("of 1 and 2 the PERSON, of 3 the DAY, of 4 the TEAM; NONE if it HOLDS), the DAY of a 1 (2; NONE else)");
        Edges.test("it holds", () -> judged(Edges.planned(Edges.crowd(1, 1), 1), 0, -1, -1));
        Edges.test("1", () -> judged(Edges.planned(Edges.crowd(1, 1, 1) + "cannot pb fri;", 1, 16), 1, 1, 4));
        Edges.test("1 on mon", () -> judged(Edges.planned(Edges.crowd(1, 1) + "cannot pa mon;", 1), 1, 0, 0));
        Edges.test("2", () -> judged(Edges.planned(Edges.crowd(1, 1, 1), 1, 6), 2, 1, -1));
        Edges.test("3", () -> judged(Edges.planned(Edges.crowd(0, 1), 4), 3, 2, -1));
        Edges.test("4", () -> judged(Edges.planned("floor f desks 9 noise 0 cost 0;team s;team t;person p team t days 1;person q team t days 1;meet t;", 1, 2), 4, 1, -1));
        Edges.test("of the plan now, not of one before", () -> {
            DeskDays x = Edges.planned(Edges.crowd(1, 1, 1) + "cannot pa fri;", 16, 1);
            judged(x, 1, 0, 4);
            x.put(0, 3);
            judged(x, 2, 0, -1);
            x.put(0, 1);
            judged(x, 3, 0, -1);
            x.put(0, 2);
            judged(x, 0, -1, -1);
            x.put(0, 16);
            judged(x, 1, 0, 4);
        });
        Edges.says("NONE for others");
        for (int what : new int[] {3, -1, Edges.LEAST, Edges.MOST}) Edges.test("what " + what, () -> Edges.is("judge", Edges.planned(Edges.crowd(0, 1), 1).judge(what), -1));
        Edges.test("it changes nothing", () -> Edges.leaves(Edges.OF_NONE, x -> x.judge(0)));
    }

    private static void worth() {
        Edges.of("promise 15");
        Edges.says("WORTH.");
        Edges.test("of nobody", () -> Edges.is("worth", new DeskDays().worth(), 0));
        Edges.test("of a plan that does not hold", () -> Edges.is("worth", Edges.planned(Edges.crowd(0, 1) + "likes pa mon 9;cannot pa mon;", 31).worth(), 9));
        Edges.test("it changes nothing", () -> Edges.leaves(Edges.OF_NONE, x -> x.worth()));
        Edges.test("it follows the plan, rules reckoned again", () -> {
            DeskDays x = Edges.planned(Edges.crowd(9, 1, 1) + "worth many*10 when all;", 1);
            Edges.is("one in", x.worth(), 10);
            x.put(1, 1);
            Edges.is("two in", x.worth(), 40);
            x.put(1, 0);
            Edges.is("one in", x.worth(), 10);
        });
        Edges.test("it follows the house, rules read again", () -> {
            DeskDays x = Edges.planned(Edges.crowd(9, 1) + "worth 10 when all;", 1);
            Edges.is("worth", x.worth(), 10);
            Edges.tell(x, Edges.crowd(9, 1) + "worth 7 when all;");
            x.put(0, 1);
            Edges.is("worth", x.worth(), 7);
            Edges.tell(x, Edges.crowd(9, 1));
            x.put(0, 1);
            Edges.is("worth", x.worth(), 0);
        });
    }
}
