/** Boundaries of COMERS (Terms II), of draws (Terms III) and of promises 24 to 29. */
final class ChanceEdges {
    private static final long SURE = 1000000000000L;

    private ChanceEdges() {
    }

    static void all() {
        Edges.of("Terms II");
        comers();
        Edges.of("Terms III");
        draws();
        likely();
        enough();
        over();
        stairs();
        draw();
        seed();
    }

    private static void comers() {
        Edges.says("q(0) is that at first, all others 0");
        Edges.test("no comers", () -> Edges.is("likely(0, 0)", Edges.told(Edges.crowd(1, 1)).likely(0, 0), 0));
        Edges.says("(q(j) times (100 - c) and q(j - 1) times c) / 100, the greatest whole number not above, for all j by those ahead");
        Edges.test("c 0", () -> Edges.is("likely", Edges.told("visit mon 9 0;").likely(0, 0), 0));
        Edges.test("c 100", () -> {
            DeskDays x = Edges.told("visit mon 9 100;");
            Edges.is("more than 8", x.likely(0, 8), SURE);
            Edges.is("more than 9", x.likely(0, 9), 0);
        });
        Edges.test("c 1 of 6: exactly 1", () -> Edges.is("likely", Edges.told("visit mon 6 1;").likely(0, 5), 1));
        Edges.test("c 1 of 7: below 1 is 0", () -> Edges.is("likely", Edges.told("visit mon 7 1;").likely(0, 6), 0));
        Edges.test("each step gives whole numbers", () -> {
            // q(7) of 7 with 99: 99^7 / 100^7, cut at each step
            long q = SURE;
            for (int k = 0; k < 7; k++) q = q * 99 / 100;
            Edges.is("likely", Edges.told("visit mon 7 99;").likely(0, 6), q);
            Edges.is("q", q, 932065347906L);
        });
        Edges.test("by those ahead: two of a half", () -> {
            DeskDays x = Edges.told("visit mon 2 50;");
            Edges.is("more than 0", x.likely(0, 0), SURE / 4 * 3);
            Edges.is("more than 1", x.likely(0, 1), SURE / 4);
        });
        Edges.test("what is lost is lost: all together may be below all", () -> {
            DeskDays x = Edges.told(Edges.crowd(0, Edges.alike(12, 1)) + comesAll(33) + "visit mon 9 33;");
            for (int p = 0; p < 12; p++) x.put(p, 1);
            long[] q = new long[22];
            q[0] = SURE;
            for (int k = 1; k <= 21; k++) {
                long[] next = new long[22];
                for (int j = 0; j <= k; j++) next[j] = (q[j] * 67 + (j > 0 ? q[j - 1] * 33 : 0)) / 100;
                q = next;
            }
            long sum = 0;
            for (int n = 20; n >= 0; n--) {
                sum += q[n + 1];
                Edges.is("more than " + n, x.likely(0, n), sum);
            }
        });
        Edges.test("21 comers", () -> {
            DeskDays x = Edges.planned(Edges.crowd(0, Edges.alike(12, 1)) + "visit mon 9 100;", Edges.alike(12, 1));
            Edges.is("more than 20", x.likely(0, 20), SURE);
            Edges.is("more than 21", x.likely(0, 21), 0);
        });
        Edges.says("(Here own desks count as desks for all.)");
        Edges.test("those with own desks are comers", () -> Edges.is("likely", Edges.planned(Edges.crowd(1, 1) + "own pa f;", 1).likely(0, 0), SURE));
        Edges.test("own desks are desks", () -> Edges.is("stairs", Edges.planned(Edges.crowd(1, 1, 1) + "own pa f;", 0, 1).stairs(0), 0));
    }
    private static String comesAll(int c) {
        StringBuilder s = new StringBuilder();
        for (int p = 0; p < 12; p++) s.append("comes p").append((char) ('a' + p)).append(' ').append(c).append(';');
        return s.toString();
    }

    private static void draws() {
        Edges.says("THE SEED is 1 at first");
        Edges.test("1 at first", () -> {
            DeskDays x = Edges.told("visit mon 9 50;");
            DeskDays y = Edges.told("visit mon 9 50;");
            y.seed(1);
            for (int k = 0; k < 20; k++) Edges.is("draw", x.draw(0), y.draw(0));
        });
        Edges.says("THE SEED becomes what is left of 1103515245 times it and 12345 by 2 to the 31; (THE SEED / 64) % n");
        Edges.test("of seed 0: 12345 / 64 % 100 is 92", () -> {
            Edges.is("92 is not below 92", drawn(0, 92), 0);
            Edges.is("92 is below 93", drawn(0, 93), 1);
        });
        Edges.test("of the greatest seed", () -> {
            // 1103515245 times (2 to the 31 less 1) and 12345: by 2 to the 31 it is 12345 less 1103515245 and 2 to the 31
            long next = 12345L - 1103515245L + 2147483648L;
            int number = (int) (next / 64 % 100);
            Edges.is("not below it", drawn(Edges.MOST, number), 0);
            Edges.is("below one more", drawn(Edges.MOST, number + 1), 1);
        });
        Edges.test("a seed that is 0 after a draw", () -> {
            // the one seed whose next is 0: all draws behind it are those of seed 0
            DeskDays x = Edges.told("visit mon 1 100;visit tue 9 50;");
            DeskDays y = Edges.told("visit mon 1 100;visit tue 9 50;");
            x.seed((int) seedAheadOfNought());
            x.draw(0);
            y.seed(0);
            Edges.is("draw", x.draw(1), y.draw(1));
        });
        Edges.test("a thousand draws", () -> {
            DeskDays x = Edges.told("visit mon 9 37;");
            long seed = 1;
            for (int k = 0; k < 111; k++) {
                int came = 0;
                for (int v = 0; v < 9; v++) {
                    seed = (1103515245L * seed + 12345L) % 2147483648L;
                    if (seed / 64 % 100 < 37) came++;
                }
                Edges.is("draw", x.draw(0), came);
            }
        });
    }
    private static int drawn(int seed, int comes) {
        DeskDays x = Edges.told("visit mon 1 " + comes + ";");
        x.seed(seed);
        return x.draw(0);
    }
    private static long seedAheadOfNought() {
        // the inverse of 1103515245 by 2 to the 31, by Newton's steps
        long inverse = 1;
        for (int k = 0; k < 6; k++) inverse = inverse * (2 - 1103515245L * inverse) & 0x7fffffffL;
        return (2147483648L - 12345L) * inverse & 0x7fffffffL;
    }

    private static void likely() {
        Edges.of("promise 24");
        Edges.says("How likely it is on a DAY that more come than n, of 10 to the 12; -1 if something can't be (n 0 .. 30)");
        Edges.test("n 0, one comes", () -> Edges.is("likely", Edges.planned(Edges.crowd(1, 1), 1).likely(0, 0), SURE));
        Edges.test("n as many as come", () -> Edges.is("likely", Edges.planned(Edges.crowd(1, 1), 1).likely(0, 1), 0));
        Edges.test("n 30", () -> Edges.is("likely", Edges.planned(Edges.crowd(1, 1), 1).likely(0, 30), 0));
        Edges.test("fri", () -> Edges.is("likely", Edges.planned(Edges.crowd(1, 1), 16).likely(4, 0), SURE));
        for (int n : new int[] {31, -1, Edges.LEAST, Edges.MOST}) Edges.test("n " + n, () -> Edges.is("likely", Edges.used().likely(0, n), -1));
        for (int d : new int[] {5, -1, Edges.LEAST, Edges.MOST}) Edges.test("day " + d, () -> Edges.is("likely", Edges.used().likely(d, 0), -1));
        Edges.test("it changes nothing", () -> Edges.leaves(Edges.OF_NONE, x -> x.likely(1, 1)));
        Edges.test("refused it changes nothing", () -> Edges.leaves(Edges.OF_NONE, x -> x.likely(9, 9)));
    }

    private static void enough() {
        Edges.of("promise 25");
        Edges.says("The fewest desks, 0 .. 30, with which it is on a DAY not more than so many of 100 (0 .. 100) likely that somebody stands");
        Edges.test("nobody", () -> Edges.is("enough", Edges.told(Edges.crowd(1, 1)).enough(0, 0), 0));
        Edges.test("part 100: no desks", () -> Edges.is("enough", Edges.told("visit mon 9 100;").enough(0, 100), 0));
        Edges.test("part 99, all come", () -> Edges.is("enough", Edges.told("visit mon 9 100;").enough(0, 99), 9));
        Edges.test("part 0, all come", () -> Edges.is("enough", Edges.told("visit mon 9 100;").enough(0, 0), 9));
        Edges.test("21 come", () -> Edges.is("enough", Edges.planned(Edges.crowd(0, Edges.alike(12, 1)) + "visit mon 9 100;", Edges.alike(12, 1)).enough(0, 0), 21));
        Edges.test("as likely as the part", () -> Edges.is("enough", Edges.told("visit mon 1 50;").enough(0, 50), 0));
        Edges.test("the part one less", () -> Edges.is("enough", Edges.told("visit mon 1 50;").enough(0, 49), 1));
        Edges.test("so little likely that it is 0", () -> Edges.is("enough", Edges.told("visit mon 7 1;").enough(0, 0), 6));
        Edges.test("likely by 1 of 10 to the 12 is more than 0", () -> Edges.is("enough", Edges.told("visit mon 6 1;").enough(0, 0), 6));
        Edges.test("desks that there are don't count", () -> Edges.is("enough", Edges.planned(Edges.crowd(20, 1, 1), 1, 1).enough(0, 0), 2));
        Edges.says("NONE if it can't be");
        for (int part : new int[] {101, -1, Edges.LEAST, Edges.MOST}) Edges.test("part " + part, () -> Edges.is("enough", Edges.used().enough(0, part), -1));
        for (int d : new int[] {5, -1, Edges.LEAST, Edges.MOST}) Edges.test("day " + d, () -> Edges.is("enough", Edges.used().enough(d, 5), -1));
    }

    private static void over() {
        Edges.of("promise 26");
        Edges.says("the greatest number, 40 at most, that may book n desks (0 .. 40), so that it is not more than part of 100 (0 .. 100) likely that more than n come");
        over("comes 0: 40", 0, 0, 0, 40);
        over("comes 100: n", 100, 17, 0, 17);
        over("comes 100, part 99: n", 100, 17, 99, 17);
        over("comes 100, part 100: 40", 100, 0, 100, 40);
        over("no desks, all come: nobody may book", 100, 0, 99, 0);
        over("no desks, a half: nobody may book by 49", 50, 0, 49, 0);
        over("no desks, a half: one may book by 50", 50, 0, 50, 1);
        over("n 40: 40", 100, 40, 0, 40);
        over("n 39, all come: 39", 100, 39, 0, 39);
        over("n 39, 99 of 100: 40 by 67", 99, 39, 67, 40);
        over("n 39, 99 of 100: 39 by 66", 99, 39, 66, 39);
        over("two of a half: by 25", 50, 1, 25, 2);
        over("two of a half: not by 24", 50, 1, 24, 1);
        over("a half, less what is cut, by 50", 50, 6, 50, 13);
        over("a half, less what is cut, not by 49", 50, 6, 49, 12);
        over("so little likely that it is 0", 1, 6, 0, overOf(1, 6, 0));
        Edges.test("as reckoned anew, for some of all", () -> {
            DeskDays x = new DeskDays();
            for (int comes = 0; comes <= 100; comes += 11) {
                for (int n = 0; n <= 40; n += 9) {
                    for (int part = 0; part <= 100; part += 25) Edges.is("over(" + comes + ", " + n + ", " + part + ")", x.over(comes, n, part), overOf(comes, n, part));
                }
            }
        });
        Edges.says("NONE if it can't be");
        for (int wrong : new int[] {101, -1, Edges.LEAST, Edges.MOST}) {
            over("comes " + wrong, wrong, 5, 5, -1);
            over("part " + wrong, 5, 5, wrong, -1);
        }
        for (int n : new int[] {41, -1, Edges.LEAST, Edges.MOST}) over("n " + n, 5, n, 5, -1);
        Edges.test("the house doesn't count", () -> Edges.is("over", Edges.used().over(50, 1, 25), 2));
    }
    private static void over(String name, int comes, int n, int part, int want) {
        Edges.test(name, () -> Edges.is("over(" + comes + ", " + n + ", " + part + ")", new DeskDays().over(comes, n, part), want));
    }
    /** The same by itself: q anew for each number of people. */
    private static int overOf(int comes, int n, int part) {
        int greatest = 0;
        for (int people = 0; people <= 40; people++) {
            long[] q = new long[42];
            q[0] = SURE;
            for (int k = 0; k < people; k++) {
                long[] next = new long[42];
                for (int j = 0; j <= k + 1; j++) next[j] = (q[j] * (100 - comes) + (j > 0 ? q[j - 1] * comes : 0)) / 100;
                q = next;
            }
            long more = 0;
            for (int j = n + 1; j <= 40; j++) more += q[j];
            if (more * 100 <= part * SURE) greatest = people;
        }
        return greatest;
    }

    private static void stairs() {
        Edges.of("promise 27");
        Edges.says("of each j above DESKS (j - DESKS) times q(j), together / 10 to the 6, the greatest whole number not above");
        Edges.test("as many as desks", () -> Edges.is("stairs", Edges.told("floor f desks 9 noise 0 cost 0;visit mon 9 100;").stairs(0), 0));
        Edges.test("one more than desks", () -> Edges.is("stairs", Edges.told("floor f desks 8 noise 0 cost 0;visit mon 9 100;").stairs(0), 1000000));
        Edges.test("no desks, 21 come", () -> Edges.is("stairs", Edges.planned(Edges.crowd(0, Edges.alike(12, 1)) + "visit mon 9 100;",
            Edges.alike(12, 1)).stairs(0), 21000000));
        Edges.test("nobody", () -> Edges.is("stairs", new DeskDays().stairs(0), 0));
        Edges.test("100 desks", () -> Edges.is("stairs", Edges.planned("floor a desks 20 noise 0 cost 0;floor b desks 20 noise 0 cost 0;"
            + "team t;person p team t days 1;", 1).stairs(0), 0));
        Edges.test("exactly a millionth", () -> Edges.is("stairs", Edges.told("floor f desks 2 noise 0 cost 0;visit mon 3 1;").stairs(0), 1));
        Edges.test("below a millionth", () -> Edges.is("stairs", Edges.told("floor f desks 3 noise 0 cost 0;visit mon 4 1;").stairs(0), 0));
        Edges.test("put together first, then cut", () -> {
            // 3 of 4 with 1 of 100: 4 * 99 * 10^4, and all 4: 10^4; (1 * 3960000 + 2 * 10000) / 10^6 is 3
            Edges.is("stairs", Edges.told("floor f desks 2 noise 0 cost 0;visit mon 4 1;").stairs(0), 3);
            // 3 of 4 with 4 of 100: 4 * 96 * 64 * 10^4 = 245760000, all 4: 256 * 10^4 = 2560000: 245 and 5, put together 250
            Edges.is("stairs", Edges.told("floor f desks 2 noise 0 cost 0;visit mon 4 4;").stairs(0), 250);
        });
        Edges.test("one of 10 to the 12 less than a whole millionth", () -> {
            DeskDays x = Edges.planned(Edges.crowd(1, 1) + "comes pa 20;visit mon 8 95;", 1);
            // 20 and 8 times 95 of 100, less the one desk: 6.8, less what is cut
            Edges.is("stairs", x.stairs(0), 6799999);
        });
        Edges.says("-1 if there is no such DAY");
        for (int d : new int[] {5, -1, Edges.LEAST, Edges.MOST}) Edges.test("day " + d, () -> Edges.is("stairs", Edges.used().stairs(d), -1));
    }

    private static void draw() {
        Edges.of("promise 28");
        Edges.says("for each COMER (PERSONS IN, visitors) a DRAW of 100, below so many it comes: how many came");
        Edges.test("comes 0 never", () -> Edges.is("draw", Edges.told("visit mon 9 0;").draw(0), 0));
        Edges.test("comes 100 always", () -> Edges.is("draw", Edges.told("visit mon 9 100;").draw(0), 9));
        Edges.test("21 come", () -> Edges.is("draw", Edges.planned(Edges.crowd(0, Edges.alike(12, 1)) + "visit mon 9 100;", Edges.alike(12, 1)).draw(0), 21));
        Edges.test("nobody: no draw", () -> {
            DeskDays x = Edges.told("visit tue 9 50;");
            DeskDays y = Edges.told("visit tue 9 50;");
            Edges.is("draw", x.draw(0), 0);
            Edges.is("draw", x.draw(1), y.draw(1));
        });
        Edges.test("one that comes 0 or 100 takes a draw too", () -> {
            DeskDays x = Edges.told("visit mon 1 0;visit tue 1 100;visit wed 9 50;visit thu 2 50;");
            DeskDays y = Edges.told("visit mon 1 0;visit tue 1 100;visit wed 9 50;visit thu 2 50;");
            x.draw(0);
            x.draw(1);
            y.draw(3);
            Edges.is("draw", x.draw(2), y.draw(2));
        });
        Edges.test("one that is not in takes none", () -> {
            DeskDays x = Edges.planned(Edges.crowd(9, 1, 1) + "comes pa 50;comes pb 50;visit tue 9 50;", 1, 2);
            DeskDays y = Edges.planned(Edges.crowd(9, 1) + "comes pa 50;visit tue 9 50;", 1);
            Edges.is("draw", x.draw(0), y.draw(0));
        });
        Edges.test("persons come first, by numbers", () -> {
            // of seed 0 the first numbers are 92, then b, c: each of three has its own bound
            long s = 12345;
            int[] numbers = new int[3];
            for (int k = 0; k < 3; k++) {
                numbers[k] = (int) (s / 64 % 100);
                s = (1103515245L * s + 12345L) % 2147483648L;
            }
            DeskDays x = Edges.planned(Edges.crowd(9, 1, 1) + "comes pa " + (numbers[0] + 1) + ";comes pb " + numbers[1] + ";visit mon 1 " + (numbers[2] + 1) + ";", 1, 1);
            x.seed(0);
            Edges.is("pa and the visitor", x.draw(0), 2);
        });
        Edges.says("NONE if there is no such DAY");
        for (int d : new int[] {5, -1, Edges.LEAST, Edges.MOST}) {
            Edges.test("day " + d, () -> {
                Edges.is("draw", Edges.used().draw(d), -1);
                Edges.leaves(Edges.OF_NONE, x -> x.draw(d));
            });
        }
    }

    private static void seed() {
        Edges.of("promise 29");
        Edges.says("THE SEED is this, 0 .. 2 to the 31 less 1: true; false if it can't be");
        Edges.test("0", () -> Edges.is("seed", new DeskDays().seed(0), true));
        Edges.test("2 to the 31 less 1", () -> Edges.is("seed", new DeskDays().seed(Edges.MOST), true));
        Edges.test("it is this", () -> {
            DeskDays x = Edges.told("visit mon 9 50;");
            x.seed(777);
            int first = x.draw(0);
            x.draw(0);
            x.seed(777);
            Edges.is("draw", x.draw(0), first);
        });
        for (int to : new int[] {-1, -2, Edges.LEAST}) {
            Edges.test("seed " + to, () -> {
                Edges.is("seed", Edges.used().seed(to), false);
                Edges.leaves(Edges.OF_SEED, x -> x.seed(to));
            });
        }
    }
}
