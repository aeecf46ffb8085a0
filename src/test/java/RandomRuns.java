import java.util.Random;

/** Runs of calls drawn with fixed seeds, each answer held against PlainModel's. */
public final class RandomRuns {
    private static final String[] SCRAPS = {"floor", "desks", "noise", "cost", "team", "person", "days", "cannot", "likes",
        "tie", "comes", "visit", "own", "meet", "turns", "stand", "worth", "mon", "tue", "wed", "thu", "fri", "when", "or",
        "and", "not", "all", "day", "crew", "many", "room", "min", "max", ";", "<", ">", "=", "+", "-", "*", "/", "%", "(",
        ")", "[", "]", ",", "0", "5", "99", "9999", "12345", "abcdefg", "zz", "a", "\n", " ", "#", "\u00e9", "", "A", "x1", "1x"};
    private final Random random;
    private final DeskDays due;
    private final PlainModel model = new PlainModel();
    private final StringBuilder log = new StringBuilder();
    private int wrong = 0;

    private RandomRuns(long seed) {
        random = new Random(seed);
        due = new DeskDays();
    }

    private int below(int n) { return random.nextInt(n); }
    private boolean chance(int of100) { return below(100) < of100; }
    private String oneOf(String... all) { return all[below(all.length)]; }

    // ---- texts

    private String sum(int depth) {
        StringBuilder s = new StringBuilder(product(depth));
        while (chance(30)) s.append(oneOf("+", "-", " + ", " - ")).append(product(depth));
        return s.toString();
    }
    private String product(int depth) {
        StringBuilder s = new StringBuilder(part(depth));
        while (chance(30)) s.append(oneOf("*", "/", "%")).append(part(depth));
        return s.toString();
    }
    private String part(int depth) {
        int kind = below(depth > 0 ? 10 : 7);
        switch (kind) {
            case 0: case 1: return String.valueOf(chance(20) ? below(10000) : below(6));
            case 2: return "day";
            case 3: return "person";
            case 4: return "crew";
            case 5: return "many";
            case 6: return "room";
            case 7: return "(" + sum(depth - 1) + ")";
            default: return oneOf("min", "max") + "(" + sum(depth - 1) + "," + sum(depth - 1) + ")";
        }
    }
    private String test(int depth) {
        StringBuilder s = new StringBuilder(fact(depth));
        while (chance(30)) s.append(oneOf(" or ", " and ")).append(fact(depth));
        return s.toString();
    }
    private String fact(int depth) {
        if (chance(15)) return "not " + fact(depth);
        if (chance(10)) return "all";
        if (depth > 0 && chance(20)) return "[" + test(depth - 1) + "]";
        return sum(depth) + oneOf("<", ">", "=") + sum(depth);
    }
    private static String name(String kind, int k) { return kind + (char) ('a' + k); }

    private String house() {
        StringBuilder s = new StringBuilder();
        int floors = 1 + below(5), teams = 1 + below(5), persons = 1 + below(chance(30) ? 12 : 8);
        int deskRange = chance(20) ? 21 : 4;
        for (int f = 0; f < floors; f++)
            s.append("floor ").append(name("f", f)).append(" desks ").append(below(deskRange)).append(" noise ")
                .append(below(chance(50) ? 10 : 100)).append(" cost ").append(below(5) * 200).append(";");
        for (int t = 0; t < teams; t++) s.append("team ").append(name("t", t)).append(";");
        for (int p = 0; p < persons; p++)
            s.append("person ").append(name("p", p)).append(" team ").append(name("t", below(teams))).append(" days ")
                .append(chance(70) ? 1 + below(3) : below(6)).append(";");
        int more = below(34);
        for (int k = 0; k < more; k++) s.append(oneMore(floors, teams, persons)).append(chance(10) ? ";\n" : ";");
        return s.length() > 1800 ? s.substring(0, 1800) : s.toString();
    }
    private String oneMore(int floors, int teams, int persons) {
        String who = name("p", below(persons));
        String when = PlainModel.WEEK.get(below(5));
        switch (below(14)) {
            case 0: return "cannot " + who + " " + when;
            case 1: return "likes " + who + " " + when + " " + below(100);
            case 2: case 3: case 4: case 5: case 6:
                return persons < 2 ? "stand 3" : "tie " + who + " " + other(who, persons) + " " + below(chance(60) ? 10 : 100);
            case 7: return "comes " + who + " " + below(101);
            case 8: return "visit " + when + " " + below(10) + " " + below(101);
            case 9: return chance(30) ? "own " + who + " " + name("f", below(floors)) : "turns " + who + " " + below(5);
            case 10: return "meet " + name("t", below(teams));
            case 11: return "turns " + who + " " + below(5);
            case 12: return "stand " + below(chance(60) ? 20 : 1000);
            default: return "worth " + sum(2) + " when " + test(2);
        }
    }
    private String other(String who, int persons) {
        String one = name("p", below(persons));
        return one.equals(who) ? name("p", (one.charAt(1) - 'a' + 1) % persons) : one;
    }
    /** All that a house may have, and at times one more. */
    private String fullHouse() {
        StringBuilder s = new StringBuilder();
        for (int f = 0; f < 5; f++) s.append("floor ").append(name("f", f)).append(" desks ").append(below(5)).append(" noise ").append(below(9)).append(" cost 9;");
        for (int t = 0; t < 6; t++) s.append("team ").append(name("t", t)).append(";");
        for (int p = 0; p < 12; p++) s.append("person ").append(name("p", p)).append(" team ").append(name("t", below(6))).append(" days ").append(1 + below(3)).append(";");
        for (int k = 0; k < 30; k++) {
            String who = name("p", below(12));
            s.append("tie ").append(who).append(" ").append(other(who, 12)).append(" ").append(below(30)).append(";");
        }
        for (int k = 0; k < 12; k++) s.append("worth ").append(below(20)).append("-many when day=").append(below(5)).append(oneOf(" and person%3=1;", " and crew<3;", ";"));
        if (chance(30)) s.append(oneOf("floor x desks 1 noise 1 cost 1;", "team x;", "person x team ta days 1;", "tie pa pb 1;", "worth 1 when all;"));
        return s.toString();
    }
    /** The text with one of its words or numbers put where another one stands. */
    private String mixed(String text) {
        String[] parts = text.split("(?<=[ ;])|(?=[ ;])");
        parts[below(parts.length)] = parts[below(parts.length)];
        return String.join("", parts);
    }
    private String nested(String text) {
        String sum = "1", test = "all";
        for (int k = below(11); k > 0; k--) sum = oneOf("(" + sum + ")", "min(" + sum + ",day)", "max(2," + sum + ")", "1+(" + sum + "*2)");
        for (int k = below(11); k > 0; k--) test = oneOf("[" + test + "]", "not[" + test + " and day=1]", "[many=2 or " + test + "]");
        return text + "worth " + sum + " when " + test + oneOf(";", " and " + sum + "<3;");
    }
    private String spoiled(String text) {
        if (chance(40)) return mixed(text);
        if (chance(20) && text.length() < 1300) return nested(text);
        int at = below(text.length() + 1);
        int to = Math.min(text.length(), at + below(4));
        switch (below(3)) {
            case 0: return text.substring(0, at);
            case 1: return text.substring(0, at) + oneOf(SCRAPS) + text.substring(at);
            default: return text.substring(0, at) + oneOf(SCRAPS) + text.substring(to);
        }
    }

    // ---- calls

    private void same(String call, long got, long want) {
        log.append(call).append(" -> ").append(got).append('\n');
        if (got != want && wrong++ == 0) {
            String all = log.toString();
            System.out.println(all.substring(Math.max(0, all.length() - 3000)));
            System.out.println(call + " answered " + got + ", the plain model has " + want);
        }
    }
    private void same(String call, boolean got, boolean want) { same(call, got ? 1 : 0, want ? 1 : 0); }

    private void feed(String bytes) {
        StringBuilder padded = new StringBuilder(bytes);
        while (padded.length() % 20 != 0) padded.append(' ');
        for (int at = 0; at < padded.length(); at += 20) {
            int[] n = new int[5];
            for (int k = 0; k < 20; k++) n[k / 4] = (n[k / 4] << 8) | (padded.charAt(at + k) & 255);
            same("feed", due.feed(n[0], n[1], n[2], n[3], n[4]), model.feed(n));
        }
    }
    private void tape(String bytes) {
        same("end(0)", due.end(0), model.end(0));
        feed(bytes);
        same("end", due.end(bytes.length()), model.end(bytes.length()));
    }
    private void tell(String text) {
        log.append(text).append('\n');
        tape(text);
        same("house", due.house(), model.house());
        same("fault(0)", due.fault(0), model.fault(0));
        same("fault(1)", due.fault(1), model.fault(1));
    }
    private int person() { return chance(95) ? below(12) : below(3) * 20 - 20; }
    private int day() { return chance(95) ? below(5) : below(3) * 10 - 9; }
    private int anything(int n) { return chance(97) ? below(n) : oneOfInts(-1, n, 1000, Integer.MIN_VALUE, Integer.MAX_VALUE); }
    private int oneOfInts(int... all) { return all[below(all.length)]; }

    private void row() {
        int persons = model.has(2);
        StringBuilder s = new StringBuilder();
        for (int p = 0; p < (chance(90) ? persons : persons + 1); p++) s.append((char) below(chance(97) ? 32 : 256));
        tape(s.toString());
        same("row", due.row(), model.row());
    }
    private void on() {
        same("image", due.image(), model.image());
        StringBuilder s = new StringBuilder();
        for (int k = 0; k <= 14; k++) {
            same("octet", due.octet(k), model.octet(k));
            if (model.octet(k) >= 0) s.append((char) model.octet(k));
        }
        if (chance(30)) s.setCharAt(below(s.length()), (char) below(40));
        if (chance(50)) call();
        tape(s.toString());
        same("on", due.on(), model.on());
    }

    /** What is on the tape, whatever it is, taken by one of those that take it, or more behind it. */
    private void taken() {
        switch (below(5)) {
            case 0: same("house", due.house(), model.house()); break;
            case 1: same("row", due.row(), model.row()); break;
            case 2: same("on", due.on(), model.on()); break;
            case 3: { int n = anything(40); same("end " + n, due.end(n), model.end(n)); break; }
            default: feed(oneOf("team x;", "stand 7;", "team", ";", oneOf(SCRAPS))); break;
        }
    }

    private void call() {
        int p = person(), q = person(), d = day();
        switch (below(44)) {
            case 0: { int w = anything(9); same("has " + w, due.has(w), model.has(w)); break; }
            case 1: { int w = anything(3), k = anything(7); same("letter", due.letter(w, p, k), model.letter(w, p, k)); break; }
            case 2: case 3: { int w = anything(8); same("person " + p + " " + w, due.person(p, w), model.person(p, w)); break; }
            case 4: { int f = anything(5), w = anything(4); same("floor", due.floor(f, w), model.floor(f, w)); break; }
            case 5: case 6: case 7: { int s = anything(32); same("put " + p + " " + s, due.put(p, s), model.put(p, s)); break; }
            case 8: row(); break;
            case 9: { int w = anything(3); same("day " + d + " " + w, due.day(d, w), model.day(d, w)); break; }
            case 10: { int k = anything(30); same("met " + k, due.met(k), model.met(k)); break; }
            case 11: { int w = anything(3); same("judge " + w, due.judge(w), model.judge(w)); break; }
            case 12: case 13: same("worth", due.worth(), model.worth()); break;
            case 14: case 15: if (chance(20)) same("seek", due.seek(), model.seek()); break;
            case 16: same("spent", due.spent(), model.spent()); break;
            case 17: if (chance(10)) same("fewest", due.fewest(), model.fewest()); break;
            case 18: case 19: { int t = chance(50) ? 1 + below(20) : anything(2001); same("better " + t, due.better(t), model.better(t)); break; }
            case 20: case 21: same("both " + p + " " + q, due.both(p, q), model.both(p, q)); break;
            case 22: same("trade " + p + " " + q, due.trade(p, q), model.trade(p, q)); break;
            case 23: { int w = anything(3); same("should " + w, due.should(w), model.should(w)); break; }
            case 24: { boolean g = chance(50); same("bound", due.bound(g), model.bound(g)); break; }
            case 25: { int n = anything(chance(80) ? 12 : 31); same("likely", due.likely(d, n), model.likely(d, n)); break; }
            case 26: { int n = anything(101); same("enough", due.enough(d, n), model.enough(d, n)); break; }
            case 27: if (chance(10)) {
                int c = anything(101), n = anything(41), part = anything(101);
                same("over " + c + " " + n + " " + part, due.over(c, n, part), model.over(c, n, part));
            } break;
            case 28: same("stairs " + d, due.stairs(d), model.stairs(d)); break;
            case 29: case 30: same("draw " + d, due.draw(d), model.draw(d)); break;
            case 31: { int to = oneOfInts(0, 7, random.nextInt(), Integer.MAX_VALUE); same("seed", due.seed(to), model.seed(to)); break; }
            case 32: same("alone " + p, due.alone(p), model.alone(p)); break;
            case 33: { int n = chance(60) ? 1 + below(4) : anything(61); same("free " + n, due.free(n), model.free(n)); break; }
            case 34: case 35: same("seat " + d + " " + p, due.seat(d, p), model.seat(d, p)); break;
            case 36: { int w = anything(3); same("fit " + d + " " + w, due.fit(d, w), model.fit(d, w)); break; }
            case 37: same("shut " + d, due.shut(d), model.shut(d)); break;
            case 38: { int n = anything(10); same("never " + n, due.never(n), model.never(n)); break; }
            case 39: same("weeks", due.weeks(), model.weeks()); break;
            case 40: { int n = anything(6); same("grow " + n, due.grow(n), model.grow(n)); break; }
            case 41: same("move " + p, due.move(p), model.move(p)); break;
            case 42: if (chance(30)) on(); break;
            default: { int w = anything(6); same("status " + w, due.status(w), model.status(w)); break; }
        }
    }

    private int run() {
        for (int k = 0; k < 5; k++) call();
        for (int told = 0; told < 3; told++) {
            String text = chance(15) ? fullHouse() : house();
            for (int k = below(3); k > 0; k--) tell(spoiled(text));
            tell(text);
            if (chance(70)) same("seek", due.seek(), model.seek());
            for (int k = 0; k < 60; k++) call();
            // An empty tape is an empty house, so this comes last.
            for (int k = below(12); k > 0; k--) taken();
            for (int what = 0; what < 6; what++) same("status " + what, due.status(what), model.status(what));
        }
        if (chance(10)) for (int k = 0; k < 100; k++) same("feed", due.feed(k, -k, 7, k << 24, -1), model.feed(k, -k, 7, k << 24, -1));
        return wrong;
    }

    public static void main(String[] args) {
        int runs = args.length > 0 ? Integer.parseInt(args[0]) : 400;
        int from = args.length > 1 ? Integer.parseInt(args[1]) : 0;
        int wrongRuns = 0;
        for (int seed = from; seed < from + runs && wrongRuns < 3; seed++) {
            if (new RandomRuns(seed).run() > 0) {
                System.out.println("run " + seed + " differs");
                wrongRuns++;
            }
        }
        System.out.println(wrongRuns == 0 ? "random runs: all answers are the plain model's" : "random runs: answers differ");
        if (wrongRuns > 0) System.exit(1);
    }
}
