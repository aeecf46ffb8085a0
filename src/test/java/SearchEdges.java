import java.util.Arrays;
import java.util.function.Consumer;

/** Boundaries of plans sought and bettered (Terms III) and of promises 16 to 23. */
final class SearchEdges {
    /** A plan is found with the 19999th set that is looked at. */
    private static final String LATE = "person pa team t days 2;person pb team u days 1;person pc team u days 3;person pd team u days 2;"
        + "person pe team t days 2;person pf team t days 1;cannot pa mon;cannot pf tue;cannot pf wed;meet t;";
    /** With 2 desks there is none, with 3 one is found with the 19999th. */
    private static final String LATE_FEWEST = "person pa team t days 1;person pb team u days 2;person pc team u days 2;person pd team t days 2;"
        + "person pe team u days 2;person pf team t days 2;cannot pa mon;cannot pa wed;cannot pa fri;cannot pb thu;cannot pd tue;cannot pe wed;meet t;";
    /** There is none, which is known with the 19995th. */
    private static final String IN_VAIN = "person pa team t days 4;person pb team t days 2;person pc team t days 2;person pd team t days 1;"
        + "person pe team t days 2;cannot pd tue;meet t;";

    private SearchEdges() {
    }

    static void all() {
        Edges.of("Terms III");
        sought();
        bettered();
        bound();
        seek();
        spent();
        fewest();
        better();
        both();
        trade();
        should();
        boundCall();
    }

    /** So many persons without days, of a team of their own, come first: each is looked at once. */
    private static DeskDays behind(int idle, int desks, String persons) {
        StringBuilder s = new StringBuilder("floor f desks " + desks + " noise 0 cost 0;team t;team u;team v;");
        for (int k = 0; k < idle; k++) s.append("person i").append((char) ('a' + k)).append(" team v days 0;");
        return Edges.told(s + persons);
    }
    private static void sought(DeskDays x, int answer, int spent) {
        Edges.is("seek", x.seek(), answer);
        Edges.is("spent", x.spent(), spent);
    }
    private static void sought() {
        Edges.says("each with the first SET (by bits as a number, rising) that SUITS");
        Edges.test("of 0 days", () -> {
            DeskDays x = Edges.planned(Edges.crowd(0, 0), 9);
            sought(x, 1, 1);
            Edges.sets(x, 0);
        });
        Edges.test("of 5 days", () -> {
            DeskDays x = Edges.told(Edges.crowd(1, 5));
            sought(x, 1, 1);
            Edges.sets(x, 31);
        });
        Edges.test("rising by bits: tue and wed ahead of mon and thu", () -> {
            DeskDays x = Edges.told(Edges.crowd(2, 2, 2, 2));
            sought(x, 1, 1 + 1 + 6);
            Edges.sets(x, 3, 3, 12);
        });
        Edges.test("those that do not suit are not looked at", () -> {
            DeskDays x = Edges.told(Edges.crowd(1, 1) + "cannot pa mon;cannot pa tue;cannot pa wed;cannot pa thu;");
            sought(x, 1, 1);
            Edges.sets(x, 16);
        });
        Edges.says("by which on no DAY more without own desks are IN (of those that have a SET by now) than that");
        Edges.test("as many as desks", () -> sought(Edges.told(Edges.crowd(2, 5, 5)), 1, 2));
        Edges.test("one more than desks", () -> sought(Edges.told(Edges.crowd(1, 5, 5)), 0, 2));
        Edges.test("own desks take none", () -> sought(Edges.told(Edges.crowd(2, 5, 5, 5) + "own pb f;"), 0, 3));
        Edges.test("own desks take none, the last one's either", () -> sought(Edges.told(Edges.crowd(2, 5, 5) + "own pb f;"), 1, 2));
        Edges.test("all desks owned: others find none", () -> sought(Edges.told(Edges.crowd(1, 5, 1) + "own pa f;"), 0, 1 + 5));
        Edges.test("all desks owned: others without days", () -> sought(Edges.told(Edges.crowd(1, 5, 0) + "own pa f;"), 1, 2));
        Edges.test("no desks, no days", () -> sought(Edges.told(Edges.crowd(0, 0, 0)), 1, 2));
        Edges.test("no desks, a day", () -> sought(Edges.told(Edges.crowd(0, 1)), 0, 5));
        Edges.says("when the last PERSON of a TEAM that must meet has its SET, the TEAM has to have its DAY");
        Edges.test("not ahead of the last one", () -> {
            DeskDays x = Edges.told(Edges.crowd(9, 1, 1, 1) + "cannot pb mon;meet t;");
            // pa mon: pb tue .. fri, each with five of pc in vain; pa tue, pb tue, pc mon, tue
            sought(x, 1, 1 + 4 + 4 * 5 + 1 + 1 + 2);
            Edges.sets(x, 2, 2, 2);
        });
        Edges.test("the last one by numbers, others being behind", () -> {
            DeskDays x = Edges.told("floor f desks 9 noise 0 cost 0;team t;team u;person a team t days 1;person b team t days 1;"
                + "person c team u days 1;cannot a mon;cannot a tue;cannot a wed;cannot a thu;meet t;");
            sought(x, 1, 1 + 5 + 1);
            Edges.sets(x, 16, 16, 1);
        });
        Edges.test("own desks meet too", () -> {
            DeskDays x = Edges.told(Edges.crowd(1, 1, 1) + "own pb f;cannot pb mon;meet t;");
            sought(x, 0, 5);
        });
        Edges.test("a team without persons", () -> sought(Edges.told("floor f desks 1 noise 0 cost 0;team s;team t;person p team t days 1;meet s;"), 1, 1));
        Edges.test("a team of one without days", () -> sought(Edges.told(Edges.crowd(1, 0) + "meet t;"), 0, 1));
        Edges.says("where no SET is left, the PERSON ahead goes on with its next one");
        Edges.test("the first one has none: none", () -> sought(Edges.told(Edges.crowd(1, 5, 1) + "cannot pa mon;"), 0, 0));
        Edges.test("the second one has none: all of the first", () -> sought(Edges.told(Edges.crowd(9, 2, 5) + "cannot pb mon;"), 0, 10));
        Edges.test("nobody", () -> sought(new DeskDays(), 1, 0));
        Edges.says("when 20000 were and one more is due, it is given up");
        Edges.test("found with the 19999th", () -> sought(behind(0, 4, LATE), 1, 19999));
        Edges.test("found with the 20000th", () -> {
            DeskDays x = behind(1, 4, LATE);
            sought(x, 1, 20000);
            Edges.is("it holds", x.judge(0), 0);
        });
        Edges.test("one more is due", () -> {
            DeskDays x = behind(2, 4, LATE);
            x.put(3, 5);
            sought(x, -2, 20000);
            Edges.sets(x, 0, 0, 0, 5);
        });
        Edges.test("none, with the 19995th", () -> sought(behind(0, 3, IN_VAIN), 0, 19995));
        Edges.test("none, with the 20000th: none is due any more", () -> sought(behind(5, 3, IN_VAIN), 0, 20000));
        Edges.test("none, but one more is due", () -> sought(behind(6, 3, IN_VAIN), -2, 20000));
    }

    private static void bettered() {
        Edges.says("by which THE PLAN HOLDS and its WORTH is greater is done");
        Edges.test("a worth that is the same is not greater", () -> {
            DeskDays x = Edges.planned(Edges.crowd(9, 1) + "likes pa mon 5;likes pa fri 5;", 16);
            Edges.is("better", x.better(2000), 0);
            Edges.sets(x, 16);
        });
        Edges.test("greater by 1", () -> {
            DeskDays x = Edges.planned(Edges.crowd(9, 1) + "likes pa mon 6;likes pa fri 5;", 16);
            Edges.is("better", x.better(2000), 1);
            Edges.sets(x, 1);
        });
        Edges.test("greater, below 0", () -> {
            DeskDays x = Edges.planned(Edges.crowd(9, 1) + "worth 0-10+day when all;", 1);
            Edges.is("better", x.better(2000), 4);
            Edges.sets(x, 16);
            Edges.is("worth", x.worth(), -6);
        });
        Edges.test("the first, not the best", () -> {
            DeskDays x = Edges.planned(Edges.crowd(9, 1) + "likes pa tue 1;likes pa wed 9;", 1);
            Edges.is("better", x.better(1), 1);
            Edges.sets(x, 2);
        });
        Edges.test("greater, but some would stand", () -> {
            DeskDays x = Edges.planned(Edges.crowd(1, 1, 1) + "likes pa tue 9;", 1, 2);
            Edges.is("better", x.better(2000), 0);
            Edges.sets(x, 1, 2);
        });
        Edges.test("greater, but the team would be apart", () -> {
            DeskDays x = Edges.planned(Edges.crowd(9, 1, 1) + "likes pa tue 9;meet t;", 1, 1);
            Edges.is("better", x.better(2000), 0);
        });
        Edges.says("at most so many changes are looked at (those that SUIT)");
        Edges.test("the set that it has is no change", () -> {
            DeskDays x = Edges.planned(Edges.crowd(9, 1) + "likes pa wed 9;", 2);
            // mon, then wed
            Edges.is("better(1)", x.better(1), 0);
            Edges.is("better(2)", x.better(2), 1);
        });
        Edges.test("those that do not hold are looked at too", () -> {
            DeskDays x = Edges.planned(Edges.crowd(1, 1, 1) + "likes pb wed 9;", 1, 2);
            // pa: tue (full), wed, thu, fri; pb: mon (full), wed
            Edges.is("better(5)", x.better(5), 0);
            Edges.is("better(6)", x.better(6), 1);
            Edges.sets(x, 1, 4);
        });
        Edges.test("those that do not suit are not", () -> {
            DeskDays x = Edges.planned(Edges.crowd(9, 1) + "likes pa fri 9;cannot pa tue;cannot pa wed;cannot pa thu;", 1);
            Edges.is("better(1)", x.better(1), 1);
            Edges.sets(x, 16);
        });
        Edges.test("it begins anew, and counts on", () -> {
            DeskDays x = Edges.planned(Edges.crowd(9, 1, 1) + "likes pb tue 1;likes pb wed 2;", 1, 1);
            // pa 4, pb tue; anew pa 4, pb mon, wed
            Edges.is("better(10)", x.better(10), 1);
            x.put(1, 1);
            Edges.is("better(11)", x.better(11), 2);
        });
    }

    private static void bound() {
        Edges.says("of each TIE its number times the least of: DAYS of both, DAYS that neither cannot");
        Edges.test("the first one's days", () -> Edges.is("bound", Edges.told(Edges.crowd(9, 1, 4) + "tie pa pb 7;").bound(false), 7));
        Edges.test("the second one's days", () -> Edges.is("bound", Edges.told(Edges.crowd(9, 4, 1) + "tie pa pb 7;").bound(false), 7));
        Edges.test("days that neither cannot", () -> Edges.is("bound", Edges.told(Edges.crowd(9, 3, 3)
            + "cannot pa mon;cannot pa tue;cannot pb thu;cannot pb tue;tie pa pb 7;").bound(false), 14));
        Edges.test("no day that neither cannot", () -> Edges.is("bound", Edges.told(Edges.crowd(9, 2, 2)
            + "cannot pa mon;cannot pa tue;cannot pb wed;cannot pb thu;cannot pb fri;tie pa pb 7;").bound(false), 0));
        Edges.test("no days", () -> Edges.is("bound", Edges.told(Edges.crowd(9, 0, 5) + "tie pa pb 7;").bound(false), 0));
        Edges.test("5 days", () -> Edges.is("bound", Edges.told(Edges.crowd(9, 5, 5) + "tie pa pb 7;").bound(false), 35));
        Edges.test("30 ties of 99 on 5 days", () -> Edges.is("bound", Edges.told(Edges.crowd(9, 5, 5) + "tie pa pb 99;".repeat(30)).bound(false), 14850));
        Edges.test("desks don't count", () -> Edges.is("bound", Edges.told(Edges.crowd(0, 1, 1) + "tie pa pb 7;").bound(false), 7));
    }

    private static void seek() {
        Edges.of("promise 16");
        Edges.says("1, THE PLAN is it; 0 there is none (THE PLAN stays); -2 given up (it stays)");
        Edges.test("1: the plan is it, whatever it was", () -> {
            DeskDays x = Edges.planned(Edges.crowd(1, 1, 1), 31, 31);
            Edges.is("seek", x.seek(), 1);
            Edges.sets(x, 1, 2);
        });
        Edges.test("0: the plan stays", () -> {
            DeskDays x = Edges.planned(Edges.crowd(1, 5, 1), 7, 9);
            Edges.is("seek", x.seek(), 0);
            Edges.sets(x, 7, 9);
        });
        Edges.test("-2: the plan stays", () -> {
            DeskDays x = behind(2, 4, LATE);
            for (int p = 0; p < 8; p++) x.put(p, p);
            Edges.is("seek", x.seek(), -2);
            Edges.sets(x, 0, 1, 2, 3, 4, 5, 6, 7);
        });
        Edges.test("none of the three is a refusal", () -> {
            DeskDays x = Edges.told(Edges.crowd(1, 5, 1));
            x.seek();
            DeskDays y = behind(2, 4, LATE);
            y.seek();
            for (int what = 0; what < 6; what++) {
                Edges.is("status", x.status(what), 0);
                Edges.is("status", y.status(what), 0);
            }
        });
        Edges.says("SOUGHT with DESKS less OWNED");
        Edges.test("all desks owned, all owners", () -> Edges.is("seek", Edges.told(Edges.crowd(2, 5, 5) + "own pa f;own pb f;").seek(), 1));
        Edges.test("what is found holds", () -> {
            DeskDays x = Edges.told(Edges.crowd(2, 2, 2, 2, 2, 2) + "cannot pa mon;cannot pe fri;");
            Edges.is("seek", x.seek(), 1);
            Edges.is("judge", x.judge(0), 0);
        });
        Edges.test("seeking again finds the same", () -> {
            DeskDays x = Edges.told(Edges.crowd(1, 1, 2));
            x.seek();
            Edges.is("seek", x.seek(), 1);
            Edges.sets(x, 1, 6);
            Edges.is("spent", x.spent(), 4);
        });
    }

    private static void spent() {
        Edges.of("promise 17");
        Edges.says("How many SETS the latest seek() or fewest() looked at (of fewest(): for its last number of desks); 0 ahead of any");
        Edges.test("ahead of any", () -> Edges.is("spent", Edges.told(Edges.crowd(1, 1)).spent(), 0));
        Edges.test("of the latest: seek behind fewest", () -> {
            DeskDays x = Edges.told(Edges.crowd(2, 1, 1));
            x.fewest();
            x.seek();
            Edges.is("spent", x.spent(), 2);
        });
        Edges.test("of the latest: fewest behind seek", () -> {
            DeskDays x = Edges.told(Edges.crowd(2, 1, 1));
            x.seek();
            x.fewest();
            Edges.is("spent", x.spent(), 3);
        });
        Edges.test("of fewest: its last number alone", () -> {
            DeskDays x = Edges.told(Edges.crowd(0, 5, 5, 5));
            Edges.is("fewest", x.fewest(), 3);
            Edges.is("spent", x.spent(), 3);
        });
        Edges.test("of fewest that finds none: for 20 desks", () -> {
            DeskDays x = Edges.told(Edges.crowd(0, 2, 5) + "cannot pb mon;");
            Edges.is("fewest", x.fewest(), -1);
            Edges.is("spent", x.spent(), 10);
        });
        Edges.test("of fewest that finds none as a team can't meet: for 20 desks", () -> {
            DeskDays x = Edges.told(Edges.crowd(0, 1, 1) + "cannot pa mon;cannot pa tue;cannot pb wed;cannot pb thu;cannot pb fri;meet t;");
            Edges.is("fewest", x.fewest(), -1);
            Edges.is("spent", x.spent(), 3 + 3 * 2);
        });
        Edges.test("of one given up: 20000", () -> {
            DeskDays x = behind(2, 4, LATE);
            x.seek();
            Edges.is("spent", x.spent(), 20000);
        });
        Edges.test("of nobody: 0, whatever was ahead", () -> {
            DeskDays x = Edges.told(Edges.crowd(2, 1, 1));
            x.seek();
            x.house();
            x.seek();
            Edges.is("spent", x.spent(), 0);
        });
        Edges.test("better, both, move, free don't count", () -> {
            DeskDays x = Edges.told(Edges.crowd(2, 1, 1));
            x.seek();
            x.better(2000);
            x.both(0, 1);
            x.move(0);
            x.free(60);
            Edges.is("spent", x.spent(), 2);
        });
    }

    private static void fewest() {
        Edges.of("promise 18");
        Edges.says("The fewest desks, 0 .. 20, beside those OWNED with which there is one SOUGHT");
        Edges.test("0: nobody", () -> Edges.is("fewest", new DeskDays().fewest(), 0));
        Edges.test("0: no days", () -> Edges.is("fewest", Edges.told(Edges.crowd(0, 0, 0)).fewest(), 0));
        Edges.test("0: all have own desks", () -> Edges.is("fewest", Edges.told(Edges.crowd(2, 5, 5) + "own pa f;own pb f;").fewest(), 0));
        Edges.test("1: five days in all", () -> Edges.is("fewest", Edges.told(Edges.crowd(0, 2, 3)).fewest(), 1));
        Edges.test("2: six days in all", () -> Edges.is("fewest", Edges.told(Edges.crowd(0, 3, 3)).fewest(), 2));
        Edges.test("12: all on all days", () -> Edges.is("fewest", Edges.told(Edges.crowd(0, Edges.alike(12, 5))).fewest(), 12));
        Edges.test("beside those owned", () -> Edges.is("fewest", Edges.told(Edges.crowd(2, 5, 5, 5) + "own pa f;own pc f;").fewest(), 1));
        Edges.test("desks that there are don't count", () -> Edges.is("fewest", Edges.told(Edges.crowd(20, 5, 5)).fewest(), 2));
        Edges.test("a team that must meet needs more", () -> Edges.is("fewest", Edges.told(Edges.crowd(0, 1, 1, 1) + "meet t;").fewest(), 3));
        Edges.says("NONE if there is none, -2 if one is given up ahead of that");
        Edges.test("none: a person without sets", () -> Edges.is("fewest", Edges.told(Edges.crowd(20, 5) + "cannot pa mon;").fewest(), -1));
        Edges.test("none: a team that can't meet", () -> Edges.is("fewest", Edges.told(Edges.crowd(20, 0, 1) + "meet t;").fewest(), -1));
        Edges.test("none: a team that can't meet, with all 20 desks", () -> {
            DeskDays x = Edges.told(Edges.crowd(20, 0, 1) + "meet t;");
            x.fewest();
            Edges.is("spent", x.spent(), 1 + 5);
        });
        Edges.test("given up, though more desks would do", () -> {
            DeskDays x = Edges.told(Edges.crowd(4, Edges.alike(8, 2)));
            Edges.is("with 4 there is one", x.seek(), 1);
            Edges.is("fewest", x.fewest(), -2);
            Edges.is("spent", x.spent(), 20000);
        });
        Edges.test("found with the 20000th", () -> {
            DeskDays x = behind(1, 0, LATE_FEWEST);
            Edges.is("fewest", x.fewest(), 3);
            Edges.is("spent", x.spent(), 20000);
        });
        Edges.test("one more is due", () -> {
            DeskDays x = behind(2, 0, LATE_FEWEST);
            Edges.is("fewest", x.fewest(), -2);
            Edges.is("spent", x.spent(), 20000);
        });
        Edges.says("THE PLAN stays");
        Edges.test("the plan stays: found", () -> {
            DeskDays x = Edges.planned(Edges.crowd(2, 1, 1), 9, 7);
            x.fewest();
            Edges.sets(x, 9, 7);
        });
        Edges.test("the plan stays: none", () -> {
            DeskDays x = Edges.planned(Edges.crowd(2, 5, 1) + "cannot pa mon;", 9, 7);
            x.fewest();
            Edges.sets(x, 9, 7);
        });
        Edges.test("no refusal", () -> Edges.is("status(3)", statusAfterFewest(), 0));
    }
    private static int statusAfterFewest() {
        DeskDays x = Edges.told(Edges.crowd(2, 5, 1) + "cannot pa mon;");
        x.fewest();
        return x.status(3);
    }

    private static void better() {
        Edges.of("promise 19");
        Edges.says("BETTERED by at most so many changes looked at (1 .. 2000): how many were done");
        Edges.test("1", () -> Edges.is("better", Edges.planned(Edges.crowd(9, 1) + "likes pa mon 1;", 2).better(1), 1));
        Edges.test("2000", () -> Edges.is("better", Edges.planned(Edges.crowd(9, 1) + "likes pa mon 1;", 2).better(2000), 1));
        Edges.test("none done is no refusal", () -> {
            DeskDays x = Edges.planned(Edges.crowd(9, 1), 1);
            Edges.is("better", x.better(2000), 0);
            Edges.is("status(3)", x.status(3), 0);
        });
        Edges.test("nobody", () -> Edges.is("better", new DeskDays().better(2000), 0));
        Edges.test("none has another set", () -> Edges.is("better", Edges.planned(Edges.crowd(9, 5, 0), 31, 0).better(2000), 0));
        Edges.test("12 persons, none to be bettered", () -> Edges.is("better", Edges.planned(Edges.crowd(12, Edges.alike(12, 1)), Edges.alike(12, 1)).better(2000), 0));
        Edges.test("the last of 12", () -> {
            DeskDays x = Edges.planned(Edges.crowd(12, Edges.alike(12, 1)) + "likes pl fri 1;", Edges.alike(12, 1));
            Edges.is("better(47)", x.better(47), 0);
            Edges.is("better(48)", x.better(48), 1);
        });
        Edges.test("more than 2000 would be looked at", () -> {
            DeskDays x = slow();
            Edges.is("better(2000)", x.better(2000), SLOW_DONE);
            Edges.is("more is left", x.better(2000) > 0, true);
        });
        Edges.says("NONE if it can't be, or THE PLAN does not HOLD");
        for (int tries : new int[] {0, 2001, -1, Edges.LEAST, Edges.MOST}) {
            Edges.test("tries " + tries, () -> {
                Edges.is("better", Edges.used().better(tries), -1);
                Edges.leaves(Edges.OF_CHANGE, x -> x.better(tries));
            });
        }
        for (int p = 0; p < 4; p++) {
            int person = p;
            Edges.test("the plan does not hold by person " + p, () -> Edges.leaves(Edges.OF_CHANGE, () -> {
                DeskDays x = Edges.used();
                x.put(person, 31);
                Edges.is("better", x.better(2000), -1);
                return x;
            }, x -> x.better(2000)));
        }
        Edges.test("some stand", () -> Edges.is("better", Edges.planned(Edges.crowd(0, 1), 1).better(1), -1));
        Edges.test("a team is apart", () -> Edges.is("better", Edges.planned(Edges.crowd(9, 1, 1) + "meet t;", 1, 2).better(1), -1));
        Edges.test("both wrong is one refusal", () -> {
            DeskDays x = Edges.planned(Edges.crowd(0, 1), 1);
            x.better(0);
            Edges.is("status(3)", x.status(3), 1);
        });
    }
    /** How many of twelve, each to go from set to set, get done within 2000 changes. */
    private static final int SLOW_DONE = slowDone(2000);

    /** Twelve persons of two days, the later sets liked more. */
    private static DeskDays slow() {
        StringBuilder s = new StringBuilder(Edges.crowd(20, Edges.alike(12, 2)));
        s.append("worth 2*day+(day+1)/3+(day+2)/4*2+day/4*5 when all;");
        DeskDays x = Edges.told(s.toString());
        for (int p = 0; p < 12; p++) x.put(p, 3);
        return x;
    }
    /** The same by itself: one person's sets rising, each worth as below. */
    private static int slowDone(int tries) {
        int[] worthOfDay = new int[5];
        for (int day = 0; day < 5; day++) worthOfDay[day] = 2 * day + (day + 1) / 3 + (day + 2) / 4 * 2 + day / 4 * 5;
        int[] sets = new int[12];
        Arrays.fill(sets, 3);
        int done = 0;
        int tried = 0;
        boolean isChanged = true;
        while (isChanged) {
            isChanged = false;
            search:
            for (int p = 0; p < 12; p++) {
                for (int set = 0; set < 32; set++) {
                    if (Integer.bitCount(set) != 2 || set == sets[p]) continue;
                    if (tried == tries) return done;
                    tried++;
                    if (worthOf(set, worthOfDay) > worthOf(sets[p], worthOfDay)) {
                        sets[p] = set;
                        done++;
                        isChanged = true;
                        break search;
                    }
                }
            }
        }
        return done;
    }
    private static int worthOf(int set, int[] worthOfDay) {
        int sum = 0;
        for (int day = 0; day < 5; day++) if ((set >> day & 1) == 1) sum += worthOfDay[day];
        return sum;
    }

    private static void both() {
        Edges.of("promise 20");
        Edges.says("THE PLAN is the first such (by the first one's SET, then the second one's)");
        Edges.test("all alike: the first sets", () -> {
            DeskDays x = Edges.planned(Edges.crowd(9, 1, 1), 16, 16);
            Edges.is("both", x.both(0, 1), 0);
            Edges.sets(x, 1, 1);
        });
        Edges.test("by the first one's set, which may be the later person", () -> {
            DeskDays x = Edges.planned(Edges.crowd(1, 1, 1), 16, 16);
            Edges.is("both", x.both(1, 0), 0);
            Edges.sets(x, 2, 1);
        });
        Edges.test("by the first one's set", () -> {
            DeskDays x = Edges.planned(Edges.crowd(1, 1, 1), 16, 16);
            Edges.is("both", x.both(0, 1), 0);
            Edges.sets(x, 1, 2);
        });
        Edges.test("the plan did not hold by those two", () -> {
            DeskDays x = Edges.planned(Edges.crowd(1, 1, 1), 31, 0);
            Edges.is("both", x.both(0, 1), 0);
        });
        Edges.test("below 0", () -> Edges.is("both", Edges.planned(Edges.crowd(9, 5, 5) + "worth 0-9999*9999 when all;", 0, 0).both(0, 1), -10000000));
        Edges.test("the plan that it is", () -> {
            DeskDays x = Edges.planned(Edges.crowd(9, 5, 5), 31, 31);
            Edges.is("both", x.both(0, 1), 0);
            Edges.sets(x, 31, 31);
        });
        Edges.test("the last two of 12", () -> Edges.is("both", Edges.planned(Edges.crowd(12, Edges.alike(12, 1)) + "tie pk pl 9;",
            Edges.alike(12, 1)).both(11, 10), 9));
        Edges.test("the last two of 12, 10 sets each", () -> {
            DeskDays x = Edges.planned(Edges.crowd(12, Edges.alike(12, 2)) + "likes pk fri 1;likes pk thu 1;likes pl fri 1;likes pl thu 1;", Edges.alike(12, 3));
            Edges.is("both", x.both(10, 11), 4);
            Edges.sets(x, 3, 3, 3, 3, 3, 3, 3, 3, 3, 3, 24, 24);
            Edges.is("the other way round", x.both(11, 10), 4);
            Edges.sets(x, 3, 3, 3, 3, 3, 3, 3, 3, 3, 3, 24, 24);
        });
        Edges.says("NOTHING (-10 to the 9), THE PLAN staying, if there is none such, or they are not two");
        Edges.test("none holds as another's set is wrong", () -> Edges.leaves(Edges.OF_NONE, () -> {
            DeskDays x = Edges.used();
            x.put(3, 31);
            return x;
        }, x -> Edges.is("both", x.both(0, 1), Edges.NOTHING)));
        Edges.test("none suits one of them", () -> {
            DeskDays x = Edges.planned(Edges.crowd(9, 1, 5) + "cannot pb mon;", 4, 4);
            Edges.is("both", x.both(0, 1), Edges.NOTHING);
            Edges.is("both", x.both(1, 0), Edges.NOTHING);
            Edges.sets(x, 4, 4);
            Edges.is("status(3)", x.status(3), 0);
        });
        Edges.test("no desks for them", () -> {
            DeskDays x = Edges.planned(Edges.crowd(1, 3, 3), 4, 4);
            Edges.is("both", x.both(0, 1), Edges.NOTHING);
            Edges.sets(x, 4, 4);
        });
        notTwo(pair -> {
            Edges.is("both", Edges.used().both(pair[0], pair[1]), Edges.NOTHING);
            Edges.leaves(Edges.OF_CHANGE, y -> y.both(pair[0], pair[1]));
        });
    }
    private static void notTwo(Consumer<int[]> check) {
        int[][] pairs = {{0, 0}, {3, 3}, {0, 4}, {4, 0}, {-1, 0}, {0, -1}, {12, 0}, {0, 12}, {-1, -1}, {4, 4}, {Edges.LEAST, 0}, {0, Edges.MOST}};
        for (int[] pair : pairs) Edges.test("persons " + pair[0] + " and " + pair[1], () -> check.accept(pair));
    }

    private static void trade() {
        String text = Edges.crowd(1, 1, 1) + "likes pa fri 9;likes pb fri 4;";
        Edges.of("promise 21");
        Edges.says("What WORTH would be more (or less), if two PERSONS exchanged their SETS (THE PLAN stays)");
        Edges.test("more", () -> Edges.is("trade", Edges.planned(text, 1, 16).trade(0, 1), 5));
        Edges.test("less", () -> Edges.is("trade", Edges.planned(text, 16, 1).trade(0, 1), -5));
        Edges.test("the other way round", () -> Edges.is("trade", Edges.planned(text, 16, 1).trade(1, 0), -5));
        Edges.test("the same sets", () -> Edges.is("trade", Edges.planned(Edges.crowd(2, 1, 1), 1, 1).trade(0, 1), 0));
        Edges.test("the plan stays", () -> Edges.leaves(Edges.OF_NONE, x -> x.trade(0, 1)));
        Edges.test("the plan stays where it would hold", () -> {
            DeskDays x = Edges.planned(text, 1, 16);
            x.trade(0, 1);
            Edges.sets(x, 1, 16);
        });
        Edges.test("the plan does not hold now, but would", () -> Edges.is("trade", Edges.planned(Edges.crowd(9, 1, 2), 3, 1).trade(0, 1), 0));
        Edges.says("NOTHING if they are not two, or one would not SUIT, or THE PLAN would not HOLD then");
        Edges.test("the first one would not suit: days", () -> Edges.is("trade", Edges.planned(Edges.crowd(9, 1, 2), 1, 3).trade(0, 1), Edges.NOTHING));
        Edges.test("one would not suit: it cannot", () -> {
            Edges.is("trade", Edges.planned(Edges.crowd(9, 1, 1) + "cannot pa fri;", 1, 16).trade(0, 1), Edges.NOTHING);
            Edges.is("trade", Edges.planned(Edges.crowd(9, 1, 1) + "cannot pa fri;", 1, 16).trade(1, 0), Edges.NOTHING);
        });
        Edges.test("it does not hold, by a third one", () -> Edges.is("trade", Edges.planned(Edges.crowd(9, 1, 1, 1), 1, 2, 3).trade(0, 1), Edges.NOTHING));
        Edges.test("some stand then: an own desk", () -> Edges.is("trade", Edges.planned(Edges.crowd(2, 1, 1, 1) + "own pa f;", 1, 2, 1).trade(0, 1), Edges.NOTHING));
        Edges.test("a team is apart then", () -> Edges.is("trade", Edges.planned("floor f desks 9 noise 0 cost 0;team t;team u;person a team t days 1;"
            + "person b team t days 1;person c team u days 1;meet t;", 1, 1, 2).trade(1, 2), Edges.NOTHING));
        notTwo(pair -> {
            Edges.is("trade", Edges.used().trade(pair[0], pair[1]), Edges.NOTHING);
            Edges.leaves(Edges.OF_NONE, y -> y.trade(pair[0], pair[1]));
        });
    }

    private static void should() {
        String text = Edges.crowd(9, 1, 1, 1, 1) + "tie pa pb 5;tie pa pc 9;tie pb pc 9;";
        Edges.of("promise 22");
        Edges.says("The TIE that is met on no DAY with the greatest number, the first of like ones (what 0; NONE without)");
        Edges.test("the first of like ones", () -> Edges.is("should(0)", Edges.told(text).should(0), 1));
        Edges.test("a later one, the greater being met", () -> Edges.is("should(0)", Edges.planned(text, 1, 2, 3).should(0), 0));
        Edges.test("without: all are met", () -> Edges.is("should(0)", Edges.planned(text, 1, 1, 1).should(0), -1));
        Edges.test("without: no ties", () -> Edges.is("should(0)", Edges.told(Edges.crowd(9, 1)).should(0), -1));
        Edges.test("a tie of 0", () -> Edges.is("should(0)", Edges.told(Edges.crowd(9, 1, 1) + "tie pa pb 0;").should(0), 0));
        Edges.says("how many TIES are met on no DAY (1)");
        Edges.test("all", () -> Edges.is("should(1)", Edges.told(text).should(1), 3));
        Edges.test("none", () -> Edges.is("should(1)", Edges.planned(text, 16, 16, 16).should(1), 0));
        Edges.test("30", () -> Edges.is("should(1)", Edges.told(Edges.crowd(9, 1, 1) + "tie pa pb 0;".repeat(30)).should(1), 30));
        Edges.says("how many PERSONS with TIES meet nobody of theirs (2)");
        Edges.test("persons without ties don't count", () -> Edges.is("should(2)", Edges.told(text).should(2), 3));
        Edges.test("one tie of several met is enough", () -> Edges.is("should(2)", Edges.planned(text, 3, 1, 4).should(2), 1));
        Edges.test("none", () -> Edges.is("should(2)", Edges.planned(text, 3, 1, 2).should(2), 0));
        Edges.test("no ties", () -> Edges.is("should(2)", Edges.told(Edges.crowd(9, 1)).should(2), 0));
        Edges.test("a tie of 0 is one", () -> Edges.is("should(2)", Edges.told(Edges.crowd(9, 1, 1) + "tie pa pb 0;").should(2), 2));
        Edges.says("NONE for others");
        for (int what : new int[] {3, -1, Edges.LEAST, Edges.MOST}) Edges.test("what " + what, () -> Edges.is("should", Edges.told(text).should(what), -1));
    }

    private static void boundCall() {
        Edges.of("promise 23");
        Edges.says("BOUND (gap false), or what it is more than what TIES are worth now");
        Edges.test("no ties", () -> {
            Edges.is("bound(false)", new DeskDays().bound(false), 0);
            Edges.is("bound(true)", new DeskDays().bound(true), 0);
        });
        Edges.test("none met: the gap is all", () -> Edges.is("bound(true)", Edges.told(Edges.crowd(9, 2, 3) + "tie pa pb 7;").bound(true), 14));
        Edges.test("all met: no gap", () -> Edges.is("bound(true)", Edges.planned(Edges.crowd(9, 2, 3) + "tie pa pb 7;", 3, 7).bound(true), 0));
        Edges.test("more met than it may: below 0", () -> Edges.is("bound(true)", Edges.planned(Edges.crowd(9, 2, 3) + "tie pa pb 7;", 31, 31).bound(true), -21));
        Edges.test("likes and rules don't count", () -> Edges.is("bound(true)", Edges.planned(Edges.crowd(9, 1, 1) + "tie pa pb 7;likes pa mon 9;worth 5 when all;", 1, 1).bound(true), 0));
        Edges.test("the plan does not change BOUND", () -> Edges.is("bound(false)", Edges.planned(Edges.crowd(9, 2, 3) + "tie pa pb 7;", 31, 31).bound(false), 14));
    }
}
