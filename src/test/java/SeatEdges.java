/** Boundaries of each alone, of seats (Terms III) and of promises 30 to 34. */
final class SeatEdges {
    private static final String TWELVE = "team t;person pa team t days 1;person pb team t days 1;person pc team t days 1;"
        + "person pd team t days 1;person pe team t days 1;person pf team t days 1;person pg team t days 1;person ph team t days 1;"
        + "person pi team t days 1;person pj team t days 1;person pk team t days 1;person pl team t days 1;";
    /** Houses in which, all being in, there are so many exchanges till none is left (found by trying, reckoned by another program). */
    private static final String EXCHANGES_49 = "floor fa desks 2 noise 20 cost 0;floor fb desks 7 noise 91 cost 0;floor fc desks 1 noise 5 cost 0;"
        + "floor fd desks 3 noise 41 cost 0;" + TWELVE + ties("gd25 ia23 hf39 cl72 ah41 ad0 bf14 eh59 ha0 bg12 ik90 bl20 ce84 hb21 ch82 le71 ba25 dk88 "
        + "cd11 eb50 le86 af30 cf97 kb12 hc66 ke28 hf24 lf93 jb21 lj31");
    private static final String EXCHANGES_50 = "floor fa desks 2 noise 9 cost 0;floor fb desks 7 noise 59 cost 0;floor fc desks 1 noise 2 cost 0;"
        + "floor fd desks 3 noise 33 cost 0;" + TWELVE + ties("gd22 ia25 hg40 cl74 ah39 hd2 bf15 eh58 ih3 bg15 ik88 bl20 ce87 hb21 ch81 le70 ba26 dk87 "
        + "cd16 eb50 le90 af30 cf95 hb9 hc64 ke26 hf34 lf92 jb21 lj32");
    private static final String EXCHANGES_51 = "floor fa desks 2 noise 24 cost 0;floor fb desks 6 noise 46 cost 0;floor fc desks 1 noise 0 cost 0;"
        + "floor fd desks 3 noise 27 cost 0;" + TWELVE + ties("gd20 ka27 hg44 cl90 ah43 gc45 bg9 ej21 jd3 bg12 ik91 bl24 ce97 ij10 ch82 le74 ba28 dk84 "
        + "cd10 eb60 le78 af34 cf74 kb2 hc73 he66 kf47 lf98 jb18 lj37");
    private static final String EXCHANGES_60 = "floor fa desks 2 noise 11 cost 0;floor fb desks 2 noise 52 cost 0;floor fc desks 5 noise 67 cost 0;"
        + "floor fd desks 6 noise 37 cost 0;floor fe desks 2 noise 47 cost 0;" + TWELVE + ties("fj81 al11 ik56 ig55 fh28 la10 ke66 fe17 dh30 ka68 jl95 "
        + "ce68 lj50 ed30 el77 hk96 ag77 hi48 dk93 kj88 jl42 dk60 lj41 eb79 cb11 ej67 ca20 gl26 je34 jd69");
    private static final String FLOORS = "floor a desks 2 noise 5 cost 9;floor b desks 2 noise 0 cost 9;";
    private static final String FIVE = FLOORS + "team t;person p team t days 1;person q team t days 1;person r team t days 1;"
        + "person s team t days 1;person u team t days 1;";

    private SeatEdges() {
    }

    /** "gd25" is tie pg pd 25. */
    private static String ties(String all) {
        StringBuilder s = new StringBuilder();
        for (String one : all.split(" ")) s.append("tie p").append(one.charAt(0)).append(" p").append(one.charAt(1)).append(' ').append(one.substring(2)).append(';');
        return s.toString();
    }

    static void all() {
        Edges.of("Terms III");
        alone();
        rounds();
        seated();
        exchanged();
        aloneCall();
        free();
        seat();
        fit();
        shut();
    }

    private static void alone() {
        Edges.says("less STAND (stand N) for each DAY of the SET on which some STAND (or would, with it there)");
        Edges.test("as many as desks", () -> Edges.is("alone", Edges.planned(Edges.crowd(2, 1, 1), 1, 1).alone(0), 0));
        Edges.test("one more than desks", () -> Edges.is("alone", Edges.planned(Edges.crowd(1, 1, 1), 1, 1).alone(0), -50));
        Edges.test("the first of them too", () -> Edges.is("alone", Edges.planned(Edges.crowd(1, 1, 1), 1, 1).alone(1), -50));
        Edges.test("each such day once, however many stand", () -> Edges.is("alone", Edges.planned(Edges.crowd(0, 1, 1, 1), 31, 3, 1).alone(0), -250));
        Edges.test("days on which others stand but it is not in", () -> Edges.is("alone", Edges.planned(Edges.crowd(1, 1, 1, 1), 2, 1, 1).alone(0), 0));
        Edges.test("an own desk, others stand", () -> Edges.is("alone", Edges.planned(Edges.crowd(1, 1, 1) + "own pa f;", 1, 1).alone(0), -50));
        Edges.test("an own desk, nobody stands", () -> Edges.is("alone", Edges.planned(Edges.crowd(1, 1, 1) + "own pa f;", 1, 2).alone(0), 0));
        Edges.test("stand 0", () -> Edges.is("alone", Edges.planned(Edges.crowd(0, 1) + "stand 0;", 31).alone(0), 0));
        Edges.test("stand 999", () -> Edges.is("alone", Edges.planned(Edges.crowd(0, 1) + "stand 999;", 31).alone(0), -4995));
        Edges.says("of its TIES the number times the DAYS of the SET on which the other one is IN, what it likes");
        Edges.test("ties told either way", () -> {
            DeskDays x = Edges.planned(Edges.crowd(9, 1, 1) + "tie pa pb 3;tie pb pa 4;", 3, 1);
            Edges.is("alone(0)", x.alone(0), 7);
            Edges.is("alone(1)", x.alone(1), 7);
        });
        Edges.test("ties of others don't count", () -> Edges.is("alone", Edges.planned(Edges.crowd(9, 1, 1, 1) + "tie pb pc 3;", 1, 1, 1).alone(0), 0));
        Edges.test("no days", () -> Edges.is("alone", Edges.planned(Edges.crowd(0, 1, 1) + "tie pa pb 3;likes pa mon 9;", 0, 1).alone(0), 0));
        Edges.test("rules don't count", () -> Edges.is("alone", Edges.planned(Edges.crowd(9, 1) + "worth 9 when all;likes pa mon 2;", 1).alone(0), 2));
    }

    private static void rounds() {
        Edges.says("that with the greatest ALONE, the least number of like ones");
        Edges.test("the least number of like ones", () -> {
            DeskDays x = Edges.planned(Edges.crowd(9, 1), 16);
            Edges.is("free", x.free(60), 2);
            Edges.sets(x, 1);
        });
        Edges.test("of like ones below 0", () -> {
            DeskDays x = Edges.planned(Edges.crowd(0, 1), 16);
            Edges.is("free", x.free(60), 2);
            Edges.sets(x, 1);
        });
        Edges.test("the greatest below 0", () -> {
            DeskDays x = Edges.planned(Edges.crowd(0, 1) + "likes pa wed 1;", 16);
            Edges.is("free", x.free(60), 2);
            Edges.sets(x, 4);
        });
        Edges.test("the greatest, by 1", () -> {
            DeskDays x = Edges.planned(Edges.crowd(9, 1) + "likes pa mon 4;likes pa fri 5;", 1);
            Edges.is("free", x.free(60), 2);
            Edges.sets(x, 16);
        });
        Edges.test("the others' sets as they are by now", () -> {
            DeskDays x = Edges.planned(Edges.crowd(9, 1, 1) + "tie pa pb 3;likes pa tue 9;", 1, 1);
            Edges.is("free", x.free(1), -2);
            Edges.sets(x, 2, 2);
        });
        Edges.says("a PERSON without such keeps what it has");
        Edges.test("without a set that suits", () -> {
            DeskDays x = Edges.planned(Edges.crowd(9, 5) + "cannot pa mon;", 31);
            Edges.is("free", x.free(60), 1);
            Edges.sets(x, 31);
        });
        Edges.says("It RESTS, when a ROUND changes nothing");
        Edges.test("nobody", () -> Edges.is("free", new DeskDays().free(1), 1));
        Edges.test("no days", () -> Edges.is("free", Edges.planned(Edges.crowd(9, 0), 0).free(1), 1));
    }

    private static void seats(DeskDays x, int... want) {
        for (int p = 0; p < want.length; p++) Edges.is("seat of person " + p, x.seat(0, p), want[p]);
    }
    private static void seated() {
        Edges.says("PERSONS IN with own desks on their FLOORS");
        Edges.test("an own desk on a floor that is loud", () -> seats(Edges.planned(FIVE + "own p a;", 1), 0));
        Edges.test("own desks, all of them", () -> seats(Edges.planned(FIVE + "own p a;own q a;own r b;own s b;", 1, 1, 1, 1, 1), 0, 0, 1, 1, -1));
        Edges.says("each on that FLOOR with a free desk (OWNED ones are not free)");
        Edges.test("the last free desk", () -> seats(Edges.planned(FIVE, 1, 1, 1, 1), 1, 1, 0, 0));
        Edges.test("an owned desk is not free, its owner away", () -> seats(Edges.planned(FIVE + "own u b;own s b;", 1), 0));
        Edges.test("a floor without desks", () -> seats(Edges.planned("floor n desks 0 noise 0 cost 0;" + FIVE, 1), 2));
        Edges.says("less noise, are most, the first of like ones");
        Edges.test("the first of like ones", () -> seats(Edges.planned("floor a desks 1 noise 7 cost 0;floor b desks 1 noise 7 cost 0;team t;person p team t days 1;", 1), 0));
        Edges.test("ties just as much as noise: the first", () -> seats(Edges.planned(FIVE + "own u a;tie p u 5;", 1, 0, 0, 0, 1), 0));
        Edges.test("ties one less than noise", () -> seats(Edges.planned(FIVE + "own u a;tie p u 4;", 1, 0, 0, 0, 1), 1));
        Edges.test("the most below 0", () -> seats(Edges.planned("floor a desks 1 noise 99 cost 0;floor b desks 1 noise 98 cost 0;team t;person p team t days 1;", 1), 1));
        Edges.test("ties told the other way round", () -> seats(Edges.planned(FIVE + "own u a;tie u p 6;", 1, 0, 0, 0, 1), 0));
        Edges.test("ties of two others there don't count", () -> seats(Edges.planned(FIVE + "own u a;own s a;tie u s 99;", 1, 0, 0, 1, 1), 1));
        Edges.test("ties with one on another floor don't count", () -> seats(Edges.planned(FIVE + "own u b;own s b;tie p u 99;", 1, 0, 0, 1, 1), 0));
        Edges.test("several ties with those there are put together", () -> seats(Edges.planned("floor a desks 3 noise 5 cost 0;floor b desks 2 noise 0 cost 0;"
            + "team t;person p team t days 1;person q team t days 1;person r team t days 1;own q a;own r a;tie p q 3;tie r p 3;", 1, 1, 1), 0));
        Edges.test("ties with those that come later don't count", () -> Edges.is("fit", Edges.planned(FIVE + "tie p q 9;", 1, 1).fit(0, 0), 9));
        Edges.test("ties with one who is not in don't count", () -> seats(Edges.planned(FIVE + "own u a;tie p u 99;", 1), 1));
        Edges.says("without such: nowhere");
        Edges.test("the fifth of four desks", () -> seats(Edges.planned(FIVE, 1, 1, 1, 1, 1), 1, 1, 0, 0, -1));
        Edges.test("no floor", () -> seats(Edges.planned("team t;person p team t days 1;", 1), -1));
        Edges.test("all desks owned", () -> seats(Edges.planned(FIVE + "own q a;own r a;own s b;own u b;", 1), -1));
        Edges.says("of TIES with both on one FLOOR their numbers, less noise of each that sits");
        Edges.test("nobody sits", () -> Edges.is("fit", Edges.planned("team t;person p team t days 1;person q team t days 1;tie p q 9;", 1, 1).fit(0, 0), 0));
        Edges.test("two who sit nowhere are on no floor", () -> Edges.is("fit", Edges.planned("floor a desks 1 noise 3 cost 0;team t;person p team t days 1;"
            + "person q team t days 1;person r team t days 1;tie q r 9;", 1, 1, 1).fit(0, 0), -3));
        Edges.test("owners' noise counts", () -> Edges.is("fit", Edges.planned(FIVE + "own p a;", 1).fit(0, 0), -5));
    }

    private static DeskDays allIn(String text) {
        return Edges.planned(text, Edges.alike(12, 1));
    }
    private static void exchanged() {
        Edges.says("by whose exchange FIT grows, are exchanged, till there are none such, 50 times at most");
        Edges.test("none such", () -> Edges.is("fit(0, 2)", Edges.planned(FIVE, 1, 1, 1, 1).fit(0, 2), 0));
        Edges.test("a FIT that is the same does not grow", () -> Edges.is("fit(0, 2)", Edges.planned(FIVE + "tie p r 0;", 1, 1, 1, 1).fit(0, 2), 0));
        Edges.test("by 1", () -> {
            DeskDays x = Edges.planned(FIVE + "tie p s 1;", 1, 1, 1, 1);
            Edges.is("fit(0, 2)", x.fit(0, 2), 1);
            // p (b) with r (a), that is the first two by numbers
            seats(x, 0, 1, 1, 0);
        });
        Edges.test("49", () -> {
            DeskDays x = allIn(EXCHANGES_49);
            Edges.is("fit(0, 0)", x.fit(0, 0), -593);
            Edges.is("fit(0, 1)", x.fit(0, 1), 342);
            Edges.is("fit(0, 2)", x.fit(0, 2), 49);
        });
        Edges.test("50", () -> {
            DeskDays x = allIn(EXCHANGES_50);
            Edges.is("fit(0, 0)", x.fit(0, 0), -310);
            Edges.is("fit(0, 1)", x.fit(0, 1), 562);
            Edges.is("fit(0, 2)", x.fit(0, 2), 50);
        });
        Edges.test("a 51st is not done", () -> {
            DeskDays x = allIn(EXCHANGES_51);
            Edges.is("fit(0, 0)", x.fit(0, 0), -223);
            Edges.is("fit(0, 1)", x.fit(0, 1), 609);
            Edges.is("fit(0, 2)", x.fit(0, 2), 50);
            seats(x, 2, 0, 1, 3, 1, 1, 1, 1, 3, 0, 3, 1);
        });
        Edges.test("60 would be", () -> {
            DeskDays x = allIn(EXCHANGES_60);
            Edges.is("fit(0, 0)", x.fit(0, 0), -269);
            Edges.is("fit(0, 1)", x.fit(0, 1), 431);
            Edges.is("fit(0, 2)", x.fit(0, 2), 50);
            seats(x, 4, 1, 1, 3, 0, 0, 4, 3, 3, 3, 3, 3);
        });
        Edges.says("that sit without own desks, on unlike FLOORS");
        Edges.test("an own desk is not exchanged", () -> Edges.is("fit(0, 2)", Edges.planned(FLOORS + "team t;person p team t days 1;person q team t days 1;"
            + "own p a;own q b;tie p q 9;", 1, 1).fit(0, 2), 0));
        Edges.test("an own desk is not exchanged, though FIT would grow", () -> {
            // p owns on a, u on b, q sits on b: p in q's place would be with u
            Edges.is("the owner ahead", Edges.planned(FIVE + "own p a;own u b;tie p u 9;", 1, 1, 0, 0, 1).fit(0, 2), 0);
            Edges.is("the owner behind", Edges.planned(FIVE + "own s a;own u b;tie s u 9;", 1, 0, 0, 1, 1).fit(0, 2), 0);
        });
        Edges.test("one who sits nowhere is not exchanged, though FIT would grow", () -> {
            String text = "floor a desks 2 noise 0 cost 0;team t;person p team t days 1;person q team t days 1;person r team t days 1;";
            DeskDays x = Edges.planned(text + "tie p r 9;", 1, 1, 1);
            Edges.is("fit(0, 2)", x.fit(0, 2), 0);
            seats(x, 0, 0, -1);
        });
        Edges.test("one who is not in is not exchanged, though FIT would grow", () -> {
            DeskDays x = Edges.planned(FIVE + "own u b;tie p u 9;", 0, 1, 0, 0, 1);
            Edges.is("fit(0, 2)", x.fit(0, 2), 0);
            seats(x, -1, 1, -1, -1, 1);
        });
        Edges.test("two on one floor are not exchanged", () -> Edges.is("fit(0, 2)", Edges.planned("floor a desks 2 noise 3 cost 0;team t;"
            + "person p team t days 1;person q team t days 1;tie p q 9;", 1, 1).fit(0, 2), 0));
        Edges.test("one who sits nowhere is not exchanged", () -> {
            DeskDays x = Edges.planned("floor a desks 1 noise 0 cost 0;floor b desks 1 noise 0 cost 0;team t;person p team t days 1;person q team t days 1;"
                + "person r team t days 1;tie p r 9;tie q r 9;", 1, 1, 1);
            Edges.is("fit(0, 2)", x.fit(0, 2), 0);
            seats(x, 0, 1, -1);
        });
        Edges.test("an own desk draws one over", () -> {
            // u owns on b; q and r sit there or not: p and q on b's one desk and a
            DeskDays x = Edges.planned(FIVE + "own u b;tie q u 9;tie p u 1;", 1, 1, 0, 0, 1);
            Edges.is("fit(0, 0)", x.fit(0, 0), 1 - 5);
            Edges.is("fit(0, 2)", x.fit(0, 2), 1);
            Edges.is("fit(0, 1)", x.fit(0, 1), 9 - 5);
            seats(x, 0, 1, -1, -1, 1);
        });
    }

    private static void aloneCall() {
        Edges.of("promise 30");
        Edges.says("ALONE of a PERSON with its SET; NOTHING if there is none such");
        Edges.test("the last one", () -> Edges.is("alone", Edges.planned(Edges.crowd(9, 1, 1) + "likes pb fri 8;", 0, 16).alone(1), 8));
        Edges.test("below 0 is not NOTHING", () -> Edges.is("alone", Edges.planned(Edges.crowd(0, 5), 31).alone(0), -250));
        Edges.test("a set that does not suit", () -> Edges.is("alone", Edges.planned(Edges.crowd(9, 1) + "cannot pa mon;likes pa mon 8;", 3).alone(0), 8));
        for (int p : new int[] {4, -1, 12, Edges.LEAST, Edges.MOST}) Edges.test("person " + p, () -> Edges.is("alone", Edges.used().alone(p), Edges.NOTHING));
        Edges.test("nobody there", () -> Edges.is("alone", new DeskDays().alone(0), Edges.NOTHING));
        Edges.test("it changes nothing", () -> Edges.leaves(Edges.OF_NONE, x -> x.alone(1)));
    }

    private static void free() {
        // pa follows pb by their tie; pb, who owns the one desk, goes where nobody stands
        String never = Edges.crowd(1, 1, 1) + "tie pa pb 17;own pb f;";
        Edges.of("promise 31");
        Edges.says("ROUNDS, at most n (1 .. 60), till it RESTS: how many, that one counted");
        Edges.test("it rests at once: 1", () -> Edges.is("free", Edges.planned(Edges.crowd(9, 1), 1).free(60), 1));
        Edges.test("n 1, it rests at once", () -> Edges.is("free", Edges.planned(Edges.crowd(9, 1), 1).free(1), 1));
        Edges.test("12 persons", () -> Edges.is("free", Edges.planned(Edges.crowd(12, Edges.alike(12, 2)), Edges.alike(12, 24)).free(60), 2));
        Edges.test("as many rounds as n", () -> Edges.is("free", Edges.planned(Edges.crowd(9, 1), 2).free(2), 2));
        Edges.test("n 60", () -> Edges.is("free", Edges.planned(Edges.crowd(9, 1), 2).free(60), 2));
        Edges.says("-2 if it does not within n");
        Edges.test("one round less than it takes", () -> {
            DeskDays x = Edges.planned(Edges.crowd(9, 1), 2);
            Edges.is("free(1)", x.free(1), -2);
            Edges.sets(x, 1);
            Edges.is("free(1)", x.free(1), 1);
        });
        Edges.test("it never rests: 60 rounds", () -> {
            DeskDays x = Edges.told(never);
            Edges.is("free(60)", x.free(60), -2);
            // after an even number of rounds pa is on tue, pb on mon
            Edges.sets(x, 2, 1);
        });
        Edges.test("it never rests: 59 rounds", () -> {
            DeskDays x = Edges.told(never);
            Edges.is("free(59)", x.free(59), -2);
            Edges.sets(x, 1, 2);
        });
        Edges.test("-2 is no refusal", () -> {
            DeskDays x = Edges.told(never);
            x.free(60);
            Edges.is("status(3)", x.status(3), 0);
        });
        Edges.says("NONE if n can't be");
        for (int n : new int[] {0, 61, -1, Edges.LEAST, Edges.MOST}) {
            Edges.test("n " + n, () -> {
                Edges.is("free", Edges.used().free(n), -1);
                Edges.leaves(Edges.OF_CHANGE, x -> x.free(n));
            });
        }
    }

    private static void seat() {
        Edges.of("promise 32");
        Edges.says("the FLOOR of a PERSON on a DAY; NONE if it sits nowhere, or there is none such");
        Edges.test("not in", () -> Edges.is("seat", Edges.planned(FIVE, 1).seat(1, 0), -1));
        Edges.test("not in, with an own desk", () -> Edges.is("seat", Edges.planned(FIVE + "own p a;", 1).seat(1, 0), -1));
        Edges.test("no desk left", () -> Edges.is("seat", Edges.planned(FIVE, 1, 1, 1, 1, 1).seat(0, 4), -1));
        Edges.test("the 5th floor, on fri", () -> Edges.is("seat", Edges.planned("floor a desks 0 noise 0 cost 0;floor b desks 0 noise 0 cost 0;"
            + "floor c desks 0 noise 0 cost 0;floor d desks 0 noise 0 cost 0;floor e desks 1 noise 0 cost 0;team t;person p team t days 1;", 16).seat(4, 0), 4));
        for (int d : new int[] {5, -1, Edges.LEAST, Edges.MOST}) Edges.test("day " + d, () -> Edges.is("seat", Edges.used().seat(d, 2), -1));
        for (int p : new int[] {4, -1, 12, Edges.LEAST, Edges.MOST}) Edges.test("person " + p, () -> Edges.is("seat", Edges.used().seat(0, p), -1));
        Edges.test("a day asked does not change another", () -> {
            DeskDays x = Edges.planned(FIVE, 1, 2, 3);
            Edges.is("tue", x.seat(1, 0), -1);
            Edges.is("mon", x.seat(0, 0), 1);
            Edges.is("mon", x.seat(0, 1), -1);
        });
        Edges.test("it changes nothing", () -> Edges.leaves(Edges.OF_NONE, x -> x.seat(0, 0)));
    }

    private static void fit() {
        Edges.of("promise 33");
        Edges.says("0 FIT when SEATED, 1 EXCHANGED, 2 how many exchanges there were");
        Edges.test("nobody in", () -> {
            for (int what = 0; what < 3; what++) Edges.is("fit", Edges.told(FIVE).fit(0, what), 0);
        });
        Edges.test("SEATED again after EXCHANGED", () -> {
            DeskDays x = allIn(EXCHANGES_49);
            x.fit(0, 1);
            Edges.is("fit(0, 0)", x.fit(0, 0), -593);
        });
        Edges.says("NOTHING if there is none such, or for others");
        for (int d : new int[] {5, -1, Edges.LEAST, Edges.MOST}) {
            Edges.test("day " + d, () -> {
                for (int what = 0; what < 3; what++) Edges.is("fit", Edges.used().fit(d, what), Edges.NOTHING);
            });
        }
        for (int what : new int[] {3, -1, Edges.LEAST, Edges.MOST}) Edges.test("what " + what, () -> Edges.is("fit", Edges.used().fit(0, what), Edges.NOTHING));
        Edges.test("it changes nothing", () -> Edges.leaves(Edges.OF_NONE, x -> x.fit(0, 1)));
    }

    private static void shut() {
        Edges.of("promise 34");
        Edges.says("nobody IN has an own desk there");
        Edges.test("its owner is in", () -> Edges.is("shut", Edges.planned("floor a desks 1 noise 0 cost 9;team t;person p team t days 1;own p a;", 1).shut(0), -1));
        Edges.test("its owner is away", () -> Edges.is("shut", Edges.planned("floor a desks 1 noise 0 cost 9;team t;person p team t days 1;own p a;", 2).shut(0), 0));
        Edges.test("one of two owners is in", () -> Edges.is("shut", Edges.planned(FIVE + "own p a;own q a;", 0, 1).shut(0), 1));
        Edges.says("the desks of all others, their OWNED ones aside, are enough for those IN without own desks");
        Edges.test("just enough", () -> Edges.is("shut", Edges.planned(FIVE, 1, 1).shut(0), 0));
        Edges.test("one too few", () -> Edges.is("shut", Edges.planned(FIVE, 1, 1, 1).shut(0), -1));
        Edges.test("owned ones of the others aside", () -> Edges.is("shut", Edges.planned(FIVE + "own u b;", 1, 1).shut(0), 1));
        Edges.test("those with own desks need none", () -> Edges.is("shut", Edges.planned(FIVE + "own u b;", 1, 0, 0, 0, 1).shut(0), 0));
        Edges.test("one floor, nobody in", () -> Edges.is("shut", Edges.told(Edges.crowd(5, 1)).shut(0), 0));
        Edges.test("one floor, one in", () -> Edges.is("shut", Edges.planned(Edges.crowd(5, 1), 1).shut(0), -1));
        Edges.test("a floor without desks, though some stand: not enough", () -> Edges.is("shut", Edges.planned("floor n desks 0 noise 0 cost 0;" + Edges.crowd(1, 1, 1), 1, 1).shut(0), -1));
        Edges.test("a floor without desks, none too few", () -> Edges.is("shut", Edges.planned("floor n desks 0 noise 0 cost 0;" + Edges.crowd(1, 1, 1), 1, 2).shut(0), 0));
        Edges.says("with the most cost, the first of like ones; NONE if there is none");
        Edges.test("the most cost", () -> Edges.is("shut", Edges.told("floor a desks 1 noise 0 cost 5;floor b desks 1 noise 0 cost 6;floor c desks 1 noise 0 cost 4;").shut(0), 1));
        Edges.test("the first of like ones", () -> Edges.is("shut", Edges.told("floor a desks 1 noise 0 cost 5;floor b desks 1 noise 0 cost 6;floor c desks 1 noise 0 cost 6;").shut(0), 1));
        Edges.test("cost 0", () -> Edges.is("shut", Edges.told("floor a desks 1 noise 0 cost 0;floor b desks 1 noise 0 cost 0;").shut(0), 0));
        Edges.test("the most cost of those that may", () -> Edges.is("shut", Edges.planned("floor a desks 2 noise 0 cost 9;floor b desks 1 noise 0 cost 5;team t;"
            + "person p team t days 1;person q team t days 1;", 1, 1).shut(0), 1));
        Edges.test("no floor", () -> Edges.is("shut", new DeskDays().shut(0), -1));
        Edges.test("12 persons and 5 floors, all in", () -> {
            StringBuilder s = new StringBuilder();
            for (int f = 0; f < 5; f++) s.append("floor f").append((char) ('a' + f)).append(" desks 3 noise 0 cost ").append(f).append(';');
            Edges.is("shut", Edges.planned(s + TWELVE, Edges.alike(12, 1)).shut(0), 4);
            Edges.is("shut", Edges.planned(s + TWELVE + "own pa fe;own pb fd;", Edges.alike(12, 1)).shut(0), 2);
        });
        for (int d : new int[] {5, -1, Edges.LEAST, Edges.MOST}) Edges.test("day " + d, () -> Edges.is("shut", Edges.used().shut(d), -1));
    }
}
