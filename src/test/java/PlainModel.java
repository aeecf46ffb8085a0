import java.math.BigInteger;
import java.util.ArrayList;
import java.util.Arrays;
import java.util.LinkedHashMap;
import java.util.List;
import java.util.Map;
import java.util.Set;
import java.util.function.Predicate;
import java.util.function.ToLongFunction;

/** The document once more, with the Java library and without regard to speed or room: RandomRuns holds the class against it. */
final class PlainModel {
    static final int NOTHING = -1000000000;
    static final List<String> WEEK = List.of("mon", "tue", "wed", "thu", "fri");
    static final Set<String> OWN_WORDS = Set.of("floor", "desks", "noise", "cost", "team", "person", "days", "cannot",
            "likes", "tie", "comes", "visit", "own", "meet", "turns", "stand", "worth", "mon", "tue", "wed", "thu",
            "fri", "when", "or", "and", "not", "all", "day", "crew", "many", "room", "min", "max");

    record Facts(int day, int person, int crew, int many, int room) { }
    record Floor(String name, int desks, int noise, int cost) { }
    record Tie(int first, int second, int number) { }
    record Rule(ToLongFunction<Facts> sum, Predicate<Facts> test) { }
    static final class Person {
        String name; int team; int days; int comes = 100; int own = -1; int turns = 0;
        boolean[] cannot = new boolean[5];
        int[] likes = new int[5];
    }
    static final class Told {
        List<Floor> floors = new ArrayList<>();
        List<String> teams = new ArrayList<>();
        List<Person> persons = new ArrayList<>();
        List<Tie> ties = new ArrayList<>();
        List<Rule> rules = new ArrayList<>();
        boolean[] meet = new boolean[6];
        int[][] visit = new int[5][2];
        int stand = 50;
        int statements = 0;
        int owned(int floor) { return (int) persons.stream().filter(p -> p.own == floor).count(); }
        int desks() { return floors.stream().mapToInt(Floor::desks).sum(); }
        int allOwned() { return (int) persons.stream().filter(p -> p.own >= 0).count(); }
    }
    static final class Fault extends RuntimeException {
        final int kind; final int place;
        Fault(int kind, int place) { super(null, null, false, false); this.kind = kind; this.place = place; }
    }

    // ---- the text

    static final class Parser {
        final String text; int at = 0; boolean afterWord = false;
        final Told told = new Told();
        Parser(String text) { this.text = text; }

        /** The token at hand: empty at the end; looks from at on, without going on. */
        int begin() {
            int k = at;
            while (k < text.length() && (text.charAt(k) == 32 || text.charAt(k) == 10)) k++;
            return k;
        }
        static boolean letter(char c) { return c >= 'a' && c <= 'z'; }
        static boolean digit(char c) { return c >= '0' && c <= '9'; }
        String peek() {
            int from = begin();
            if (from >= text.length()) return "";
            char c = text.charAt(from);
            if (!letter(c) && !digit(c)) return text.substring(from, from + 1);
            if (afterWord && from == at) throw new Fault(1, from);
            int to = from;
            while (to < text.length() && (letter(c) ? letter(text.charAt(to)) : digit(text.charAt(to)))) {
                if (to - from == (letter(c) ? 6 : 4)) throw new Fault(1, to);
                to++;
            }
            return text.substring(from, to);
        }
        void skip() {
            String token = peek();
            at = begin() + token.length();
            afterWord = !token.isEmpty() && (letter(token.charAt(0)) || digit(token.charAt(0)));
        }
        void need(String token) {
            if (!peek().equals(token)) throw new Fault(1, begin());
            skip();
        }
        boolean may(String token) {
            if (!peek().equals(token)) return false;
            skip();
            return true;
        }
        int number(int most) {
            String token = peek();
            if (token.isEmpty() || !digit(token.charAt(0))) throw new Fault(1, begin());
            int n = Integer.parseInt(token);
            if (n > most) throw new Fault(4, begin());
            skip();
            return n;
        }
        String name() {
            String token = peek();
            if (token.isEmpty() || !letter(token.charAt(0)) || OWN_WORDS.contains(token)) throw new Fault(1, begin());
            return token;
        }
        int indexOf(int kind, String name) {
            if (kind == 0) for (int k = 0; k < told.floors.size(); k++) if (told.floors.get(k).name().equals(name)) return k;
            if (kind == 1) return told.teams.indexOf(name);
            if (kind == 2) for (int k = 0; k < told.persons.size(); k++) if (told.persons.get(k).name.equals(name)) return k;
            return -1;
        }
        String fresh() {
            String name = name();
            for (int kind = 0; kind < 3; kind++) if (indexOf(kind, name) >= 0) throw new Fault(2, begin());
            skip();
            return name;
        }
        int known(int kind, Predicate<Integer> may) {
            int k = indexOf(kind, name());
            if (k < 0 || !may.test(k)) throw new Fault(3, begin());
            skip();
            return k;
        }
        Person who() { return told.persons.get(known(2, k -> true)); }
        int weekday() {
            int k = WEEK.indexOf(peek());
            if (k < 0) throw new Fault(1, begin());
            skip();
            return k;
        }
        void room(List<?> list, int most) { if (list.size() == most) throw new Fault(5, begin()); skip(); }

        Told all() {
            while (!peek().isEmpty()) {
                statement();
                need(";");
                told.statements++;
            }
            return told;
        }
        void statement() {
            switch (peek()) {
                case "floor" -> {
                    room(told.floors, 5);
                    String name = fresh(); need("desks"); int d = number(20); need("noise"); int n = number(99); need("cost");
                    told.floors.add(new Floor(name, d, n, number(999)));
                }
                case "team" -> { room(told.teams, 6); told.teams.add(fresh()); }
                case "person" -> {
                    room(told.persons, 12);
                    Person p = new Person();
                    p.name = fresh(); need("team"); p.team = known(1, k -> true); need("days"); p.days = number(5);
                    told.persons.add(p);
                }
                case "cannot" -> { skip(); Person p = who(); p.cannot[weekday()] = true; }
                case "likes" -> { skip(); Person p = who(); int d = weekday(); p.likes[d] = number(99); }
                case "tie" -> {
                    room(told.ties, 30);
                    int a = known(2, k -> true); int b = known(2, k -> k != a);
                    told.ties.add(new Tie(a, b, number(99)));
                }
                case "comes" -> { skip(); Person p = who(); p.comes = number(100); }
                case "visit" -> { skip(); int d = weekday(); int n = number(9); told.visit[d] = new int[] {n, number(100)}; }
                case "own" -> {
                    skip();
                    int p = known(2, k -> told.persons.get(k).own < 0);
                    told.persons.get(p).own = known(0, k -> told.owned(k) < told.floors.get(k).desks());
                }
                case "meet" -> { skip(); told.meet[known(1, k -> true)] = true; }
                case "turns" -> { skip(); Person p = who(); p.turns = number(4); }
                case "stand" -> { skip(); told.stand = number(999); }
                case "worth" -> {
                    room(told.rules, 12);
                    ToLongFunction<Facts> sum = sum(0); need("when"); told.rules.add(new Rule(sum, test(0)));
                }
                default -> throw new Fault(1, begin());
            }
        }
        Predicate<Facts> test(int open) {
            Predicate<Facts> all = bothOf(open);
            while (may("or")) all = all.or(bothOf(open));
            return all;
        }
        Predicate<Facts> bothOf(int open) {
            Predicate<Facts> all = fact(open);
            while (may("and")) all = all.and(fact(open));
            return all;
        }
        Predicate<Facts> fact(int open) {
            if (may("not")) return fact(open).negate();
            if (may("all")) return f -> true;
            if (peek().equals("[")) {
                opened(open);
                Predicate<Facts> inner = test(open + 1);
                need("]");
                return inner;
            }
            ToLongFunction<Facts> left = sum(open);
            String sign = peek();
            if (!Set.of("<", ">", "=").contains(sign)) throw new Fault(1, begin());
            skip();
            ToLongFunction<Facts> right = sum(open);
            return f -> {
                int order = Long.compare(left.applyAsLong(f), right.applyAsLong(f));
                return sign.equals("<") ? order < 0 : sign.equals(">") ? order > 0 : order == 0;
            };
        }
        void opened(int open) { if (open == 8) throw new Fault(5, begin()); skip(); }
        static long cut(long n) { return Math.max(-1000000, Math.min(1000000, n)); }
        ToLongFunction<Facts> sum(int open) {
            ToLongFunction<Facts> all = product(open);
            while (peek().equals("+") || peek().equals("-")) {
                int by = peek().equals("+") ? 1 : -1;
                skip();
                ToLongFunction<Facts> left = all, right = product(open);
                all = f -> cut(left.applyAsLong(f) + by * right.applyAsLong(f));
            }
            return all;
        }
        static long divide(long a, long b) {
            if (b == 0) return 0;
            long q = a / b;
            return q * b != a && (a < 0) != (b < 0) ? q - 1 : q;
        }
        ToLongFunction<Facts> product(int open) {
            ToLongFunction<Facts> all = part(open);
            while (Set.of("*", "/", "%").contains(peek())) {
                String sign = peek();
                skip();
                ToLongFunction<Facts> left = all, right = part(open);
                all = f -> {
                    long a = left.applyAsLong(f), b = right.applyAsLong(f);
                    if (sign.equals("*")) return cut(a * b);
                    if (sign.equals("/")) return divide(a, b);
                    return b == 0 ? 0 : a - b * divide(a, b);
                };
            }
            return all;
        }
        ToLongFunction<Facts> part(int open) {
            String token = peek();
            if (!token.isEmpty() && digit(token.charAt(0))) { int n = number(9999); return f -> n; }
            switch (token) {
                case "day": skip(); return Facts::day;
                case "person": skip(); return Facts::person;
                case "crew": skip(); return Facts::crew;
                case "many": skip(); return Facts::many;
                case "room": skip(); return Facts::room;
                case "(": {
                    opened(open);
                    ToLongFunction<Facts> inner = sum(open + 1);
                    need(")");
                    return inner;
                }
                case "min": case "max": {
                    skip();
                    if (!peek().equals("(")) throw new Fault(1, begin());
                    opened(open);
                    ToLongFunction<Facts> a = sum(open + 1);
                    need(",");
                    ToLongFunction<Facts> b = sum(open + 1);
                    need(")");
                    return token.equals("min") ? f -> Math.min(a.applyAsLong(f), b.applyAsLong(f))
                            : f -> Math.max(a.applyAsLong(f), b.applyAsLong(f));
                }
                default: throw new Fault(1, begin());
            }
        }
    }

    // ---- the object

    private String tape = "";
    private Told told = new Told();
    private int[] plan = new int[0];
    private int faultKind = 0, faultPlace = -1, spent = 0;
    private long seed = 1;
    private List<Integer> image = List.of();
    private final int[] refusals = new int[6];

    private int no(int kind) { refusals[kind]++; return -1; }
    private boolean not(int kind) { refusals[kind]++; return false; }
    private boolean person(int p) { return p >= 0 && p < told.persons.size(); }
    private static boolean day(int d) { return d >= 0 && d < 5; }
    private static boolean in(int set, int day) { return (set & (1 << day)) != 0; }
    private static int size(int set) { int n = 0; for (int d = 0; d < 5; d++) if (in(set, d)) n++; return n; }

    int feed(int... numbers) {
        if (tape.length() + 20 > 1800) return no(0);
        StringBuilder more = new StringBuilder(tape);
        for (int n : numbers) for (int k = 3; k >= 0; k--) more.append((char) ((n >>> (8 * k)) & 255));
        tape = more.toString();
        return tape.length();
    }
    boolean end(int n) {
        if (n < 0 || n > tape.length()) return not(0);
        tape = tape.substring(0, n);
        return true;
    }
    int house() {
        String text = tape;
        tape = "";
        try {
            Told next = new Parser(text).all();
            told = next;
            plan = new int[told.persons.size()];
            faultKind = 0;
            faultPlace = -1;
            return told.statements;
        } catch (Fault f) {
            faultKind = f.kind;
            faultPlace = f.place;
            return no(1);
        }
    }
    int fault(int what) { return what == 0 ? faultKind : what == 1 ? faultPlace : -1; }
    int has(int what) {
        int meeting = 0;
        for (boolean m : told.meet) if (m) meeting++;
        int[] all = {told.floors.size(), told.teams.size(), told.persons.size(), told.ties.size(), told.desks(),
            told.allOwned(), told.rules.size(), told.stand, meeting};
        return what >= 0 && what < all.length ? all[what] : -1;
    }
    int letter(int kind, int which, int k) {
        List<String> names = new ArrayList<>();
        if (kind == 0) told.floors.forEach(f -> names.add(f.name()));
        if (kind == 1) names.addAll(told.teams);
        if (kind == 2) told.persons.forEach(p -> names.add(p.name));
        if (which < 0 || which >= names.size()) return -1;
        String name = names.get(which);
        return k >= 0 && k < name.length() ? name.charAt(k) : -1;
    }
    private boolean suits(int p, int set) {
        for (int d = 0; d < 5; d++) if (in(set, d) && told.persons.get(p).cannot[d]) return false;
        return size(set) == told.persons.get(p).days;
    }
    int person(int p, int what) {
        if (!person(p) || what < 0 || what > 7) return -1;
        Person one = told.persons.get(p);
        int cannot = 0, suiting = 0;
        for (int d = 0; d < 5; d++) if (one.cannot[d]) cannot |= 1 << d;
        for (int s = 0; s < 32; s++) if (suits(p, s)) suiting++;
        return new int[] {one.team, one.days, cannot, one.comes, one.own, one.turns, plan[p], suiting}[what];
    }
    int floor(int f, int what) {
        if (f < 0 || f >= told.floors.size() || what < 0 || what > 3) return -1;
        Floor one = told.floors.get(f);
        return new int[] {one.desks(), one.noise(), one.cost(), told.owned(f)}[what];
    }
    boolean put(int p, int set) {
        if (!person(p) || set < 0 || set > 31) return not(2);
        plan[p] = set;
        return true;
    }
    boolean row() {
        if (tape.length() != plan.length || tape.chars().anyMatch(c -> c > 31)) return not(2);
        plan = tape.chars().toArray();
        tape = "";
        return true;
    }
    private static int many(int[] plan, int day) { return (int) Arrays.stream(plan).filter(s -> in(s, day)).count(); }
    private int others(int[] plan, int day) {
        int n = 0;
        for (int p = 0; p < plan.length; p++) if (in(plan[p], day) && told.persons.get(p).own < 0) n++;
        return n;
    }
    private int stand(int[] plan, int day) { return Math.max(0, others(plan, day) - (told.desks() - told.allOwned())); }
    int day(int d, int what) {
        if (!day(d) || what < 0 || what > 2) return -1;
        return new int[] {many(plan, d), stand(plan, d), told.visit[d][0]}[what];
    }
    private static int metIn(int[] plan, Tie t) { return size(plan[t.first()] & plan[t.second()]); }
    int met(int k) { return k >= 0 && k < told.ties.size() ? metIn(plan, told.ties.get(k)) : -1; }
    private int[] verdict(int[] plan) {
        for (int p = 0; p < plan.length; p++)
            for (int d = 0; d < 5; d++) if (in(plan[p], d) && told.persons.get(p).cannot[d]) return new int[] {1, p, d};
        for (int p = 0; p < plan.length; p++) if (size(plan[p]) != told.persons.get(p).days) return new int[] {2, p, -1};
        for (int d = 0; d < 5; d++) if (stand(plan, d) > 0) return new int[] {3, d, -1};
        for (int t = 0; t < told.teams.size(); t++) if (told.meet[t] && !meets(plan, t, plan.length)) return new int[] {4, t, -1};
        return new int[] {0, -1, -1};
    }
    private boolean meets(int[] plan, int team, int persons) {
        for (int d = 0; d < 5; d++) {
            boolean all = true;
            for (int p = 0; p < persons; p++) if (told.persons.get(p).team == team && !in(plan[p], d)) all = false;
            if (all) return true;
        }
        return false;
    }
    int judge(int what) { return what >= 0 && what <= 2 ? verdict(plan)[what] : -1; }
    private boolean holds(int[] plan) { return verdict(plan)[0] == 0; }
    private int tied(int[] plan) { return told.ties.stream().mapToInt(t -> t.number() * metIn(plan, t)).sum(); }
    private int worthOf(int[] plan) {
        int sum = tied(plan);
        for (int p = 0; p < plan.length; p++) for (int d = 0; d < 5; d++) if (in(plan[p], d)) {
            sum += told.persons.get(p).likes[d];
            Facts facts = new Facts(d, p, told.persons.get(p).team, many(plan, d), told.desks());
            for (Rule r : told.rules) if (r.test().test(facts)) { sum += (int) r.sum().applyAsLong(facts); break; }
        }
        return sum;
    }
    int worth() { return worthOf(plan); }

    private static final class GivenUp extends RuntimeException {
        GivenUp() { super(null, null, false, false); }
    }
    private boolean extend(int[] sets, int p, int desks) {
        if (p == sets.length) return true;
        for (int s = 0; s < 32; s++) {
            if (!suits(p, s)) continue;
            if (spent == 20000) throw new GivenUp();
            spent++;
            sets[p] = s;
            int[] first = Arrays.copyOf(sets, p + 1);
            boolean fits = true;
            for (int d = 0; d < 5; d++) if (others(first, d) > desks) fits = false;
            int team = told.persons.get(p).team;
            boolean last = true;
            for (int q = p + 1; q < sets.length; q++) if (told.persons.get(q).team == team) last = false;
            if (last && told.meet[team] && !meets(sets, team, p + 1)) fits = false;
            if (fits && extend(sets, p + 1, desks)) return true;
        }
        return false;
    }
    private int sought(int[] sets, int desks) {
        spent = 0;
        try {
            return extend(sets, 0, desks) ? 1 : 0;
        } catch (GivenUp g) {
            return -2;
        }
    }
    int seek() {
        int[] sets = new int[plan.length];
        int found = sought(sets, told.desks() - told.allOwned());
        if (found == 1) plan = sets;
        return found;
    }
    int spent() { return spent; }
    int fewest() {
        for (int n = 0; n <= 20; n++) {
            int found = sought(new int[plan.length], n);
            if (found != 0) return found == 1 ? n : -2;
        }
        return -1;
    }
    private int[] with(int p, int set) { int[] next = plan.clone(); next[p] = set; return next; }
    int better(int tries) {
        if (tries < 1 || tries > 2000 || !holds(plan)) return no(3);
        int done = 0, looked = 0;
        boolean again = true;
        while (again) {
            again = false;
            for (int p = 0; p < plan.length && !again; p++) for (int s = 0; s < 32 && !again; s++) {
                if (s == plan[p] || !suits(p, s)) continue;
                if (looked == tries) return done;
                looked++;
                int[] next = with(p, s);
                if (holds(next) && worthOf(next) > worthOf(plan)) { plan = next; done++; again = true; }
            }
        }
        return done;
    }
    int both(int a, int b) {
        if (!person(a) || !person(b) || a == b) { no(3); return NOTHING; }
        int[] best = null;
        for (int s = 0; s < 32; s++) for (int t = 0; t < 32; t++) {
            int[] next = with(a, s);
            next[b] = t;
            if (holds(next) && (best == null || worthOf(next) > worthOf(best))) best = next;
        }
        if (best == null) return NOTHING;
        plan = best;
        return worthOf(plan);
    }
    int trade(int a, int b) {
        if (!person(a) || !person(b) || a == b || !suits(a, plan[b]) || !suits(b, plan[a])) return NOTHING;
        int[] next = with(a, plan[b]);
        next[b] = plan[a];
        return holds(next) ? worthOf(next) - worthOf(plan) : NOTHING;
    }
    int should(int what) {
        int greatest = -1, none = 0, lonely = 0;
        for (int k = 0; k < told.ties.size(); k++) if (met(k) == 0) {
            none++;
            if (greatest < 0 || told.ties.get(k).number() > told.ties.get(greatest).number()) greatest = k;
        }
        for (int p = 0; p < plan.length; p++) {
            int q = p;
            List<Tie> his = told.ties.stream().filter(t -> t.first() == q || t.second() == q).toList();
            if (!his.isEmpty() && his.stream().allMatch(t -> metIn(plan, t) == 0)) lonely++;
        }
        return what == 0 ? greatest : what == 1 ? none : what == 2 ? lonely : -1;
    }
    int bound(boolean gap) {
        int sum = 0;
        for (Tie t : told.ties) {
            Person a = told.persons.get(t.first()), b = told.persons.get(t.second());
            int can = 0;
            for (int d = 0; d < 5; d++) if (!a.cannot[d] && !b.cannot[d]) can++;
            sum += t.number() * Math.min(can, Math.min(a.days, b.days));
        }
        return gap ? sum - tied(plan) : sum;
    }

    // ---- chances

    private List<Integer> comers(int day) {
        List<Integer> all = new ArrayList<>();
        for (int p = 0; p < plan.length; p++) if (in(plan[p], day)) all.add(told.persons.get(p).comes);
        for (int v = 0; v < told.visit[day][0]; v++) all.add(told.visit[day][1]);
        return all;
    }
    private static Map<Integer, BigInteger> chances(List<Integer> comers) {
        Map<Integer, BigInteger> q = new LinkedHashMap<>();
        q.put(0, BigInteger.TEN.pow(12));
        int most = 0;
        for (int c : comers) {
            most++;
            Map<Integer, BigInteger> next = new LinkedHashMap<>();
            for (int j = 0; j <= most; j++) {
                BigInteger stays = q.getOrDefault(j, BigInteger.ZERO).multiply(BigInteger.valueOf(100 - c));
                BigInteger comes = q.getOrDefault(j - 1, BigInteger.ZERO).multiply(BigInteger.valueOf(c));
                next.put(j, stays.add(comes).divide(BigInteger.valueOf(100)));
            }
            q = next;
        }
        return q;
    }
    private static long more(List<Integer> comers, int n) {
        BigInteger sum = BigInteger.ZERO;
        for (Map.Entry<Integer, BigInteger> e : chances(comers).entrySet()) if (e.getKey() > n) sum = sum.add(e.getValue());
        return sum.longValueExact();
    }
    long likely(int d, int n) { return day(d) && n >= 0 && n <= 30 ? more(comers(d), n) : -1; }
    private static boolean part(int n) { return n >= 0 && n <= 100; }
    int enough(int d, int part) {
        if (!day(d) || !part(part)) return -1;
        for (int n = 0; n <= 30; n++) if (more(comers(d), n) <= 10000000000L * part) return n;
        return -1;
    }
    int over(int comes, int n, int part) {
        if (!part(comes) || !part(part) || n < 0 || n > 40) return -1;
        for (int m = 40; m >= 0; m--) if (more(java.util.Collections.nCopies(m, comes), n) <= 10000000000L * part) return m;
        return -1;
    }
    long stairs(int d) {
        if (!day(d)) return -1;
        BigInteger sum = BigInteger.ZERO;
        for (Map.Entry<Integer, BigInteger> e : chances(comers(d)).entrySet())
            if (e.getKey() > told.desks()) sum = sum.add(e.getValue().multiply(BigInteger.valueOf(e.getKey() - told.desks())));
        return sum.divide(BigInteger.TEN.pow(6)).longValueExact();
    }
    int draw(int d) {
        if (!day(d)) return -1;
        int came = 0;
        for (int c : comers(d)) {
            seed = BigInteger.valueOf(1103515245).multiply(BigInteger.valueOf(seed)).add(BigInteger.valueOf(12345))
                    .mod(BigInteger.TWO.pow(31)).longValueExact();
            if (seed / 64 % 100 < c) came++;
        }
        return came;
    }
    boolean seed(int to) {
        if (to < 0) return not(4);
        seed = to;
        return true;
    }

    // ---- each alone

    private int aloneOf(int p, int set) {
        int[] next = with(p, set);
        int sum = 0;
        for (Tie t : told.ties) if (t.first() == p || t.second() == p) sum += t.number() * metIn(next, t);
        for (int d = 0; d < 5; d++) if (in(set, d)) {
            sum += told.persons.get(p).likes[d];
            if (stand(next, d) > 0) sum -= told.stand;
        }
        return sum;
    }
    int alone(int p) { return person(p) ? aloneOf(p, plan[p]) : NOTHING; }
    int free(int n) {
        if (n < 1 || n > 60) return no(3);
        for (int round = 1; round <= n; round++) {
            int[] before = plan.clone();
            for (int p = 0; p < plan.length; p++) {
                int best = -1;
                for (int s = 0; s < 32; s++) if (suits(p, s) && (best < 0 || aloneOf(p, s) > aloneOf(p, best))) best = s;
                if (best >= 0) plan[p] = best;
            }
            if (Arrays.equals(before, plan)) return round;
        }
        return -2;
    }

    // ---- seats

    private int[] seated(int day) {
        int[] at = new int[plan.length];
        int[] used = new int[told.floors.size()];
        Arrays.fill(at, -1);
        for (int p = 0; p < plan.length; p++) if (in(plan[p], day)) at[p] = told.persons.get(p).own;
        for (int p = 0; p < plan.length; p++) {
            if (!in(plan[p], day) || told.persons.get(p).own >= 0) continue;
            int best = -1, most = 0;
            for (int f = 0; f < used.length; f++) {
                if (told.floors.get(f).desks() - told.owned(f) - used[f] <= 0) continue;
                int pull = -told.floors.get(f).noise();
                for (Tie t : told.ties) {
                    if (t.first() == p && at[t.second()] == f) pull += t.number();
                    if (t.second() == p && at[t.first()] == f) pull += t.number();
                }
                if (best < 0 || pull > most) { best = f; most = pull; }
            }
            if (best >= 0) { at[p] = best; used[best]++; }
        }
        return at;
    }
    private int fitOf(int[] at) {
        int sum = 0;
        for (Tie t : told.ties) if (at[t.first()] >= 0 && at[t.first()] == at[t.second()]) sum += t.number();
        for (int f : at) if (f >= 0) sum -= told.floors.get(f).noise();
        return sum;
    }
    private int exchange(int[] at) {
        int done = 0;
        search:
        while (done < 50) {
            for (int p = 0; p < at.length; p++) for (int q = p + 1; q < at.length; q++) {
                if (at[p] < 0 || at[q] < 0 || at[p] == at[q]) continue;
                if (told.persons.get(p).own >= 0 || told.persons.get(q).own >= 0) continue;
                int[] next = at.clone();
                next[p] = at[q];
                next[q] = at[p];
                if (fitOf(next) > fitOf(at)) {
                    System.arraycopy(next, 0, at, 0, at.length);
                    done++;
                    continue search;
                }
            }
            break;
        }
        return done;
    }
    int seat(int d, int p) {
        if (!day(d) || !person(p)) return -1;
        int[] at = seated(d);
        exchange(at);
        return at[p];
    }
    int fit(int d, int what) {
        if (!day(d) || what < 0 || what > 2) return NOTHING;
        int[] at = seated(d);
        int first = fitOf(at);
        int exchanges = exchange(at);
        return new int[] {first, fitOf(at), exchanges}[what];
    }
    int shut(int d) {
        if (!day(d)) return -1;
        int best = -1;
        for (int f = 0; f < told.floors.size(); f++) {
            int left = 0;
            for (int g = 0; g < told.floors.size(); g++) if (g != f) left += told.floors.get(g).desks() - told.owned(g);
            boolean ownerIn = false;
            for (int p = 0; p < plan.length; p++) if (in(plan[p], d) && told.persons.get(p).own == f) ownerIn = true;
            if (ownerIn || left < others(plan, d)) continue;
            if (best < 0 || told.floors.get(f).cost() > told.floors.get(best).cost()) best = f;
        }
        return best;
    }

    // ---- weeks

    private boolean meetsIn(Tie t, int week) {
        for (int d = 0; d < 5; d++) for (int e = 0; e < 5; e++) {
            int turnedD = (d + week * told.persons.get(t.first()).turns) % 5;
            int turnedE = (e + week * told.persons.get(t.second()).turns) % 5;
            if (turnedD == turnedE && in(plan[t.first()], d) && in(plan[t.second()], e)) return true;
        }
        return false;
    }
    int never(int n) {
        if (n < 1 || n > 9) return -1;
        int count = 0;
        for (Tie t : told.ties) {
            boolean met = false;
            for (int w = 0; w < n; w++) met |= meetsIn(t, w);
            if (!met) count++;
        }
        return count;
    }
    int weeks() {
        for (int n = 1; n <= 9; n++) if (never(n) == 0) return n;
        return -1;
    }
    int grow(int days) {
        if (days < 0 || days > 5) return -1;
        int count = 0, free = told.desks() - told.allOwned();
        for (int s = 0; s < 32; s++) {
            if (size(s) != days) continue;
            boolean fits = true;
            for (int d = 0; d < 5; d++) {
                int now = Math.max(0, others(plan, d) - free);
                int then = Math.max(0, others(plan, d) + (in(s, d) ? 1 : 0) - free);
                if (then > now) fits = false;
            }
            if (fits) count++;
        }
        return count;
    }
    int move(int p) {
        if (!person(p)) return -1;
        int count = 0;
        for (int s = 0; s < 32; s++) if (s != plan[p] && suits(p, s) && holds(with(p, s))) count++;
        return count;
    }

    // ---- images

    private static int check(List<Integer> bytes) {
        int c = 31;
        for (int b : bytes) c = (5 * c + b) % 227;
        return c;
    }
    int image() {
        image = new ArrayList<>();
        image.add(plan.length);
        for (int s : plan) image.add(s);
        image.add(check(image));
        return image.size();
    }
    int octet(int k) { return k >= 0 && k < image.size() ? image.get(k) : -1; }
    boolean on() {
        List<Integer> bytes = tape.chars().boxed().toList();
        tape = "";
        int n = plan.length;
        if (bytes.size() != n + 2 || bytes.get(0) != n || bytes.get(n + 1) != check(bytes.subList(0, n + 1))) return not(5);
        int[] sets = bytes.subList(1, n + 1).stream().mapToInt(b -> b).toArray();
        if (Arrays.stream(sets).anyMatch(s -> s > 31)) return not(5);
        plan = sets;
        return true;
    }
    int status(int what) { return what >= 0 && what < 6 ? refusals[what] : -1; }
}
