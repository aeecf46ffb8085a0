/** Boundaries of weeks and images (Terms III) and of promises 35 to 42. */
final class WeekEdges {
    private WeekEdges() {
    }

    static void all() {
        Edges.of("Terms III");
        turned();
        imageTerms();
        never();
        weeks();
        grow();
        move();
        image();
        octet();
        on();
        status();
    }

    /** The first week in which pa, on mon and never turned, meets pb on this day, turned by so much. */
    private static int firstWeek(int day, int turns) {
        return Edges.planned(Edges.crowd(9, 1, 1) + "tie pa pb 1;turns pb " + turns + ";", 1, 1 << day).weeks();
    }
    private static void turned() {
        Edges.says("WEEK w: each PERSON's DAYS are turned on by w times its turns, modulo 5");
        Edges.test("the first week is as the plan stands", () -> Edges.is("weeks", firstWeek(0, 3), 1));
        Edges.test("fri by 1 is mon", () -> Edges.is("weeks", firstWeek(4, 1), 2));
        Edges.test("tue by 4 is mon", () -> Edges.is("weeks", firstWeek(1, 4), 2));
        Edges.test("tue by 1 is mon in the 5th week", () -> Edges.is("weeks", firstWeek(1, 1), 5));
        Edges.test("fri by 4 is mon in the 5th week", () -> Edges.is("weeks", firstWeek(4, 4), 5));
        Edges.test("by 0 never", () -> Edges.is("weeks", firstWeek(1, 0), -1));
        for (int turns = 1; turns <= 4; turns++) {
            for (int day = 0; day < 5; day++) {
                int by = turns;
                int from = day;
                Edges.test(Edges.WEEK[day] + " by " + turns, () -> {
                    int due = 0;
                    while ((from + due * by) % 5 != 0) due++;
                    Edges.is("weeks", firstWeek(from, by), due + 1);
                });
            }
        }
        Edges.test("days of a set turn all", () -> {
            // mon wed fri by 1: tue thu mon, wed fri tue
            DeskDays x = Edges.planned(Edges.crowd(9, 1, 1) + "tie pa pb 1;turns pb 1;", 8, 21);
            Edges.is("weeks", x.weeks(), 2);
            x.put(0, 2);
            Edges.is("weeks", x.weeks(), 2);
            x.put(1, 24);
            // thu fri, fri mon, mon tue
            Edges.is("weeks", x.weeks(), 3);
        });
        Edges.test("both turned alike meet as they stand or never", () -> {
            String text = Edges.crowd(9, 1, 1) + "tie pa pb 1;turns pa 2;turns pb 2;";
            Edges.is("weeks", Edges.planned(text, 1, 2).weeks(), -1);
            Edges.is("weeks", Edges.planned(text, 16, 16).weeks(), 1);
        });
        Edges.says("A TIE MEETS in a WEEK, if there is a DAY on which both are IN then");
        Edges.test("all days", () -> Edges.is("weeks", Edges.planned(Edges.crowd(9, 1, 1) + "tie pa pb 1;", 31, 16).weeks(), 1));
        Edges.test("no days", () -> Edges.is("weeks", Edges.planned(Edges.crowd(9, 1, 1) + "tie pa pb 1;turns pa 1;", 31, 0).weeks(), -1));
    }

    private static int last(int... ahead) {
        int c = 31;
        for (int one : ahead) c = (5 * c + one) % 227;
        return c;
    }
    private static void imageTerms() {
        Edges.says("last a byte: all ahead from 31 on, c = (5 c + it) mod 227");
        Edges.test("of nobody: 155", () -> {
            DeskDays x = new DeskDays();
            x.image();
            Edges.is("octet(1)", x.octet(1), 155);
        });
        Edges.test("each last byte from 0 to 226 that two sets can have is written and taken back", () -> {
            boolean[] isSeen = new boolean[227];
            for (int k = 0; k < 1024; k++) {
                int c = last(2, k / 32, k % 32);
                if (isSeen[c]) continue;
                isSeen[c] = true;
                DeskDays x = Edges.planned(Edges.crowd(9, 1, 1), k / 32, k % 32);
                x.image();
                Edges.is("last byte", x.octet(3), c);
                Edges.tape(x, Edges.bytes(2, k / 32, k % 32, c));
                Edges.is("on", x.on(), true);
            }
            Edges.is("0 is one of them", isSeen[0], true);
            Edges.is("226 is one of them", isSeen[226], true);
        });
        Edges.test("of 12 persons", () -> {
            DeskDays x = Edges.planned(Edges.crowd(9, Edges.alike(12, 1)), Edges.alike(12, 31));
            Edges.is("image", x.image(), 14);
            Edges.is("octet(13)", x.octet(13), last(12, 31, 31, 31, 31, 31, 31, 31, 31, 31, 31, 31, 31));
        });
    }

    private static void never() {
        String text = Edges.crowd(9, 1, 1, 1) + "tie pa pb 1;tie pa pc 1;turns pb 1;";
        Edges.of("promise 35");
        Edges.says("How many TIES MEET in none of the first n WEEKS (1 .. 9); NONE if n can't be");
        Edges.test("no ties", () -> Edges.is("never", Edges.told(Edges.crowd(9, 1)).never(1), 0));
        Edges.test("nobody in", () -> Edges.is("never", Edges.told(text).never(9), 2));
        Edges.test("n 1: the first week alone", () -> Edges.is("never", Edges.planned(text, 1, 16, 1).never(1), 1));
        Edges.test("n 2: the second too", () -> Edges.is("never", Edges.planned(text, 1, 16, 1).never(2), 0));
        Edges.test("n one less than it takes", () -> Edges.is("never", Edges.planned(text, 1, 2, 1).never(4), 1));
        Edges.test("n as many as it takes", () -> Edges.is("never", Edges.planned(text, 1, 2, 1).never(5), 0));
        Edges.test("n 9", () -> Edges.is("never", Edges.planned(text, 1, 2, 2).never(9), 1));
        Edges.test("30 ties", () -> Edges.is("never", Edges.told(Edges.crowd(9, 1, 1) + "tie pa pb 0;".repeat(30)).never(9), 30));
        for (int n : new int[] {0, 10, -1, Edges.LEAST, Edges.MOST}) Edges.test("n " + n, () -> Edges.is("never", Edges.told(text).never(n), -1));
        Edges.test("it changes nothing", () -> Edges.leaves(Edges.OF_NONE, x -> x.never(9)));
    }

    private static void weeks() {
        Edges.of("promise 36");
        Edges.says("In how many WEEKS, 1 .. 9, from the first on all TIES have MET; NONE if not in 9");
        Edges.test("no ties: 1", () -> Edges.is("weeks", new DeskDays().weeks(), 1));
        Edges.test("all in the first: 1", () -> Edges.is("weeks", Edges.planned(Edges.crowd(9, 1, 1) + "tie pa pb 1;", 1, 1).weeks(), 1));
        Edges.test("each in a week of its own: the last", () -> Edges.is("weeks", Edges.planned(Edges.crowd(9, 1, 1, 1, 1)
            + "tie pa pb 1;tie pa pc 1;tie pa pd 1;turns pb 1;turns pc 1;turns pd 1;", 1, 1, 16, 8).weeks(), 3));
        Edges.test("not in the same week, but all once", () -> Edges.is("weeks", Edges.planned(Edges.crowd(9, 1, 1, 1)
            + "tie pa pb 1;tie pa pc 1;turns pb 1;", 1, 16, 1).weeks(), 2));
        Edges.test("5 is the most that can be", () -> Edges.is("weeks", Edges.planned(Edges.crowd(9, 1, 1) + "tie pa pb 1;turns pa 1;turns pb 2;", 2, 1).weeks(), 2));
        Edges.test("5 weeks", () -> Edges.is("weeks", Edges.planned(Edges.crowd(9, 1, 1) + "tie pa pb 1;turns pa 1;turns pb 2;", 1, 2).weeks(), 5));
        Edges.test("not in 9", () -> Edges.is("weeks", Edges.planned(Edges.crowd(9, 1, 1) + "tie pa pb 1;turns pa 1;turns pb 1;", 1, 2).weeks(), -1));
        Edges.test("one of two ties not in 9", () -> Edges.is("weeks", Edges.planned(Edges.crowd(9, 1, 1, 1) + "tie pa pb 1;tie pa pc 1;", 1, 1, 2).weeks(), -1));
        Edges.test("a tie of 0 has to meet too", () -> Edges.is("weeks", Edges.planned(Edges.crowd(9, 1, 1) + "tie pa pb 0;", 1, 2).weeks(), -1));
        Edges.test("it changes nothing", () -> Edges.leaves(Edges.OF_NONE, x -> x.weeks()));
    }

    private static void grow() {
        int[] all = {1, 5, 10, 10, 5, 1};
        Edges.of("promise 37");
        Edges.says("How many SETS of so many DAYS (0 .. 5) one more without own desk could have, so that on no DAY more STAND than now");
        for (int d = 0; d <= 5; d++) {
            int days = d;
            Edges.test(days + " days, desks free on all", () -> Edges.is("grow", Edges.told(Edges.crowd(1)).grow(days), all[days]));
            Edges.test(days + " days, desks free on none", () -> Edges.is("grow", Edges.planned(Edges.crowd(1, 1), 31).grow(days), days == 0 ? 1 : 0));
        }
        Edges.test("a desk free on fri alone", () -> Edges.is("grow(1)", Edges.planned(Edges.crowd(1, 1), 15).grow(1), 1));
        Edges.test("as many in as desks", () -> Edges.is("grow(1)", Edges.planned(Edges.crowd(2, 1, 1), 1, 1).grow(1), 4));
        Edges.test("one less in than desks", () -> Edges.is("grow(1)", Edges.planned(Edges.crowd(2, 1, 1), 1, 2).grow(1), 5));
        Edges.test("some stand by now: one more would", () -> Edges.is("grow(1)", Edges.planned(Edges.crowd(1, 1, 1), 1, 1).grow(1), 4));
        Edges.test("those with own desks take none", () -> Edges.is("grow(1)", Edges.planned(Edges.crowd(2, 1) + "own pa f;", 31).grow(1), 5));
        Edges.test("an own desk is not free, its owner away", () -> Edges.is("grow(1)", Edges.planned(Edges.crowd(1, 1) + "own pa f;", 0).grow(1), 0));
        Edges.test("no desks", () -> {
            Edges.is("grow(1)", new DeskDays().grow(1), 0);
            Edges.is("grow(0)", new DeskDays().grow(0), 1);
        });
        Edges.test("12 persons are no bound", () -> Edges.is("grow(5)", Edges.planned(Edges.crowd(13, Edges.alike(12, 5)), Edges.alike(12, 31)).grow(5), 1));
        Edges.says("NONE if it can't be");
        for (int days : new int[] {6, -1, Edges.LEAST, Edges.MOST}) Edges.test("days " + days, () -> Edges.is("grow", Edges.used().grow(days), -1));
        Edges.test("it changes nothing", () -> Edges.leaves(Edges.OF_NONE, x -> x.grow(2)));
    }

    private static void move() {
        Edges.of("promise 38");
        Edges.says("How many other SETS that SUIT a PERSON could have, THE PLAN then HOLDING");
        Edges.test("its own set is no other", () -> Edges.is("move", Edges.planned(Edges.crowd(9, 1), 1).move(0), 4));
        Edges.test("a set that does not suit now: all are others", () -> Edges.is("move", Edges.planned(Edges.crowd(9, 1), 3).move(0), 5));
        Edges.test("5 days: none", () -> Edges.is("move", Edges.planned(Edges.crowd(9, 5), 31).move(0), 0));
        Edges.test("no days: none", () -> Edges.is("move", Edges.planned(Edges.crowd(9, 0), 0).move(0), 0));
        Edges.test("none suits", () -> Edges.is("move", Edges.planned(Edges.crowd(9, 5) + "cannot pa mon;", 31).move(0), 0));
        Edges.test("the last of 12, 10 sets", () -> Edges.is("move", Edges.planned(Edges.crowd(12, Edges.alike(12, 2)), Edges.alike(12, 3)).move(11), 9));
        Edges.test("sets of a house before are none", () -> {
            DeskDays x = Edges.told(Edges.crowd(9, 2));
            Edges.tell(x, Edges.crowd(9, 2));
            Edges.tell(x, Edges.crowd(9, 2) + "cannot pa tue;");
            x.put(0, 5);
            Edges.is("move", x.move(0), 5);
            Edges.is("person(0, 7)", x.person(0, 7), 6);
        });
        Edges.test("full days", () -> Edges.is("move", Edges.planned(Edges.crowd(1, 1, 2), 1, 6).move(0), 2));
        Edges.test("it would not hold by another one", () -> Edges.is("move", Edges.planned(Edges.crowd(9, 1, 1), 1, 0).move(0), 0));
        Edges.test("a team would be apart", () -> Edges.is("move", Edges.planned(Edges.crowd(9, 1, 1) + "meet t;", 1, 1).move(0), 0));
        Edges.test("a team is together by it", () -> Edges.is("move", Edges.planned(Edges.crowd(9, 1, 1) + "meet t;", 1, 2).move(0), 1));
        Edges.says("NONE if there is none such");
        for (int p : new int[] {4, -1, 12, Edges.LEAST, Edges.MOST}) Edges.test("person " + p, () -> Edges.is("move", Edges.used().move(p), -1));
        Edges.test("it changes nothing", () -> Edges.leaves(Edges.OF_NONE, x -> x.move(2)));
    }

    private static void image() {
        Edges.of("promise 39");
        Edges.says("AN IMAGE is written: how many bytes");
        Edges.test("of nobody: 2", () -> Edges.is("image", new DeskDays().image(), 2));
        Edges.test("of 12: 14", () -> Edges.is("image", Edges.told(Edges.crowd(9, Edges.alike(12, 1))).image(), 14));
        Edges.test("the tape stays", () -> Edges.leaves(Edges.OF_NONE, () -> {
            DeskDays x = Edges.used();
            x.image();
            return x;
        }, x -> x.image()));
        Edges.test("a plan that does not hold", () -> Edges.is("image", Edges.planned(Edges.crowd(0, 1), 31).image(), 3));
    }

    private static void octet() {
        Edges.of("promise 40");
        Edges.says("Byte k of the latest image(); NONE if there is none such");
        Edges.test("ahead of any image", () -> Edges.is("octet(0)", Edges.told(Edges.crowd(9, 1)).octet(0), -1));
        Edges.test("the first and the last", () -> {
            DeskDays x = Edges.planned(Edges.crowd(9, 1, 1), 5, 7);
            x.image();
            Edges.is("octet(0)", x.octet(0), 2);
            Edges.is("octet(1)", x.octet(1), 5);
            Edges.is("octet(2)", x.octet(2), 7);
            Edges.is("octet(3)", x.octet(3), last(2, 5, 7));
            Edges.is("octet(4)", x.octet(4), -1);
        });
        Edges.test("the latest, not the plan now", () -> {
            DeskDays x = Edges.planned(Edges.crowd(9, 1), 5);
            x.image();
            x.put(0, 6);
            Edges.is("octet(1)", x.octet(1), 5);
            x.image();
            Edges.is("octet(1)", x.octet(1), 6);
        });
        Edges.test("a shorter one behind a longer one", () -> {
            DeskDays x = Edges.told(Edges.crowd(9, 1, 1, 1));
            x.image();
            Edges.tell(x, "team t;");
            x.image();
            Edges.is("octet(1)", x.octet(1), 155);
            Edges.is("octet(2)", x.octet(2), -1);
        });
        for (int k : new int[] {-1, 6, 14, Edges.LEAST, Edges.MOST}) Edges.test("k " + k, () -> Edges.is("octet", Edges.used().octet(k), -1));
    }

    private static void noImage(String name, int... bytes) {
        Edges.test(name, () -> {
            DeskDays with = Edges.used();
            DeskDays without = Edges.used();
            without.end(0);
            Edges.tape(with, Edges.bytes(bytes));
            Edges.is("on", with.on(), false);
            Edges.is("status(5)", with.status(5), 1);
            // the tape goes, all else stays
            Edges.is("all else", Edges.state(with), Edges.state(without));
        });
    }
    private static void on() {
        Edges.of("promise 41");
        Edges.says("The tape (it goes) is AN IMAGE of as many PERSONS: true, THE PLAN is as it tells");
        Edges.test("sets 0 and 31", () -> {
            DeskDays x = Edges.used();
            Edges.tape(x, Edges.bytes(4, 0, 31, 0, 31, last(4, 0, 31, 0, 31)));
            Edges.is("on", x.on(), true);
            Edges.sets(x, 0, 31, 0, 31);
            Edges.is("status(5)", x.status(5), 0);
        });
        Edges.test("the tape goes", () -> {
            DeskDays x = Edges.used();
            Edges.tape(x, Edges.bytes(4, 0, 31, 0, 31, last(4, 0, 31, 0, 31)));
            x.on();
            Edges.is("end(1)", x.end(1), false);
            Edges.is("feed", x.feed(0, 0, 0, 0, 0), 20);
        });
        Edges.test("of nobody", () -> {
            DeskDays x = new DeskDays();
            Edges.tape(x, Edges.bytes(0, 155));
            Edges.is("on", x.on(), true);
        });
        Edges.test("of 12", () -> {
            DeskDays x = Edges.planned(Edges.crowd(9, Edges.alike(12, 1)), 1, 2, 3, 4, 5, 6, 7, 8, 9, 10, 11, 12);
            int size = x.image();
            int[] all = new int[size];
            for (int k = 0; k < size; k++) all[k] = x.octet(k);
            for (int p = 0; p < 12; p++) x.put(p, 0);
            Edges.tape(x, Edges.bytes(all));
            Edges.is("on", x.on(), true);
            Edges.sets(x, 1, 2, 3, 4, 5, 6, 7, 8, 9, 10, 11, 12);
        });
        Edges.test("it is no image() of this object: octets stay", () -> {
            DeskDays x = Edges.used();
            int first = x.octet(1);
            Edges.tape(x, Edges.bytes(4, 0, 31, 0, 31, last(4, 0, 31, 0, 31)));
            x.on();
            Edges.is("octet(1)", x.octet(1), first);
        });
        Edges.says("false if it is none (all stays)");
        noImage("an empty tape");
        noImage("a byte too few", 4, 1, 2, 3, last(4, 1, 2, 3));
        noImage("without the last byte", 4, 1, 2, 3, 4);
        noImage("a byte too many", 4, 1, 2, 3, 4, last(4, 1, 2, 3, 4), 0);
        noImage("a byte too many, the last one right", 4, 1, 2, 3, 4, 5, last(4, 1, 2, 3, 4, 5));
        noImage("a person too few", 3, 1, 2, 3, last(3, 1, 2, 3));
        noImage("a person too many", 5, 1, 2, 3, 4, 5, last(5, 1, 2, 3, 4, 5));
        noImage("another number of persons, length and last byte right", 3, 1, 2, 3, 4, last(3, 1, 2, 3, 4));
        noImage("a set of 32", 4, 1, 2, 3, 32, last(4, 1, 2, 3, 32));
        noImage("a first set of 32", 4, 32, 2, 3, 4, last(4, 32, 2, 3, 4));
        noImage("a set of 255", 4, 1, 255, 3, 4, last(4, 1, 255, 3, 4));
        noImage("a last byte one more", 4, 1, 2, 3, 4, last(4, 1, 2, 3, 4) + 1);
        noImage("a last byte one less", 4, 1, 2, 3, 4, last(4, 1, 2, 3, 4) - 1);
        noImage("a last byte more by 227", 4, 0, 0, 0, 14, last(4, 0, 0, 0, 14) + 227);
        Edges.test("of nobody, a person", () -> {
            DeskDays x = new DeskDays();
            Edges.tape(x, Edges.bytes(1, 1, last(1, 1)));
            Edges.is("on", x.on(), false);
        });
        Edges.test("of nobody, an empty tape", () -> {
            DeskDays x = new DeskDays();
            Edges.is("on", x.on(), false);
            Edges.is("status(5)", x.status(5), 1);
        });
    }

    private static void status() {
        Edges.of("promise 42");
        Edges.says("REFUSALS so far: 0 of feed() and end(), 1 of house(), 2 of put() and row(), 3 of better(), both(), free(), 4 of seed(), 5 of on()");
        Edges.test("none at first", () -> {
            for (int what = 0; what < 6; what++) Edges.is("status", new DeskDays().status(what), 0);
        });
        Edges.test("of feed and end together", () -> {
            DeskDays x = new DeskDays();
            for (int k = 0; k < 91; k++) x.feed(0, 0, 0, 0, 0);
            x.end(-1);
            x.end(1801);
            counts(x, 3, 0, 0, 0, 0, 0);
        });
        Edges.test("of house", () -> {
            DeskDays x = new DeskDays();
            for (int k = 0; k < 3; k++) Edges.tell(x, "#");
            counts(x, 0, 3, 0, 0, 0, 0);
        });
        Edges.test("of put and row together", () -> {
            DeskDays x = Edges.told(Edges.crowd(1, 1));
            x.put(1, 0);
            x.put(0, 32);
            x.row();
            counts(x, 0, 0, 3, 0, 0, 0);
        });
        Edges.test("of better, both and free together", () -> {
            DeskDays x = Edges.told(Edges.crowd(1, 1));
            x.better(0);
            x.better(1);
            x.both(0, 0);
            x.free(0);
            counts(x, 0, 0, 0, 4, 0, 0);
        });
        Edges.test("of seed", () -> {
            DeskDays x = new DeskDays();
            x.seed(-1);
            x.seed(-2);
            counts(x, 0, 0, 0, 0, 2, 0);
        });
        Edges.test("of on", () -> {
            DeskDays x = new DeskDays();
            x.on();
            x.on();
            counts(x, 0, 0, 0, 0, 0, 2);
        });
        Edges.test("what is taken does not count", () -> {
            DeskDays x = Edges.told(Edges.crowd(9, 1, 1));
            x.put(0, 1);
            x.put(1, 1);
            Edges.tape(x, Edges.bytes(1, 1));
            x.row();
            x.better(1);
            x.both(0, 1);
            x.free(1);
            x.seed(0);
            Edges.tape(x, Edges.bytes(2, 1, 1, last(2, 1, 1)));
            x.on();
            counts(x, 0, 0, 0, 0, 0, 0);
        });
        Edges.test("no other call counts, whatever it answers", () -> {
            DeskDays x = Edges.told(Edges.crowd(0, 5) + "cannot pa mon;");
            x.fault(9);
            x.has(9);
            x.letter(9, 9, 9);
            x.person(9, 9);
            x.floor(9, 9);
            x.day(9, 9);
            x.met(9);
            x.judge(9);
            x.seek();
            x.fewest();
            x.trade(9, 9);
            x.should(9);
            x.likely(9, 99);
            x.enough(9, 999);
            x.over(999, 99, 999);
            x.stairs(9);
            x.draw(9);
            x.alone(9);
            x.seat(9, 9);
            x.fit(9, 9);
            x.shut(9);
            x.never(99);
            x.weeks();
            x.grow(9);
            x.move(9);
            x.octet(99);
            x.status(9);
            counts(x, 0, 0, 0, 0, 0, 0);
        });
        Edges.says("(both() without such a PLAN is none.)");
        Edges.test("both without such a plan", () -> {
            DeskDays x = Edges.told(Edges.crowd(0, 1, 1));
            Edges.is("both", x.both(0, 1), Edges.NOTHING);
            counts(x, 0, 0, 0, 0, 0, 0);
        });
        Edges.says("NONE for others");
        for (int what : new int[] {6, -1, Edges.LEAST, Edges.MOST}) Edges.test("what " + what, () -> Edges.is("status", Edges.used().status(what), -1));
    }
    private static void counts(DeskDays x, int... want) {
        for (int what = 0; what < 6; what++) Edges.is("status(" + what + ")", x.status(what), want[what]);
    }
}
