import java.util.Arrays;

/** Fewer desks than people: a house told as a text, and a plan of days for its people. */
public final class DeskDays {
    public static final int NONE = -1;

    private static final int NOTHING = -1000000000;
    private static final int GIVEN_UP = -2;
    private static final int TAPE_LIMIT = 1800;
    private static final int FEED_BYTES = 20;

    private static final int FLOOR_LIMIT = 5;
    private static final int TEAM_LIMIT = 6;
    private static final int PERSON_LIMIT = 12;
    private static final int TIE_LIMIT = 30;
    private static final int RULE_LIMIT = 12;
    private static final int WEEK_DAYS = 5;
    private static final int ALL_DAYS = 31;
    /** No number of days has more sets of five than two or three: ten. */
    private static final int SUITING_LIMIT = 10;
    private static final int WEEK_LIMIT = 9;

    private static final int WRONG_BYTE = 1;
    private static final int NAME_TAKEN = 2;
    private static final int NAME_UNFIT = 3;
    private static final int NUMBER_UNFIT = 4;
    private static final int TOO_MANY = 5;

    private static final int REFUSED_TAPE = 0;
    private static final int REFUSED_HOUSE = 1;
    private static final int REFUSED_SET = 2;
    private static final int REFUSED_CHANGE = 3;
    private static final int REFUSED_SEED = 4;
    private static final int REFUSED_IMAGE = 5;
    private static final int REFUSAL_KINDS = 6;

    private static final int IMAGE_START = 31;
    private static final int IMAGE_FACTOR = 5;
    private static final int IMAGE_MODULUS = 227;

    private final int[] tape = new int[TAPE_LIMIT];
    private int taped = 0;
    /** The house that is read while the one in use must stay, should a fault come. */
    private House spare = new House();
    private final Statements statements = new Statements(new Reader(tape), spare);
    private final Plan plan = new Plan(new House());
    private final Seeker seeker = new Seeker(plan);
    private final Seats seats = new Seats(plan);
    private final Chances chances = new Chances();
    private int faultKind = 0;
    private int faultPlace = NONE;
    private long seedNow = 1;
    private final int[] written = new int[PERSON_LIMIT + 2];
    private int writtenSize = 0;
    private final int[] refusals = new int[REFUSAL_KINDS];

    public DeskDays() {
    }

    // ---- the tape and the house

    public int feed(int a, int b, int c, int d, int e) {
        if (taped + FEED_BYTES > TAPE_LIMIT) {
            return refuse(REFUSED_TAPE);
        }
        addBytes(a);
        addBytes(b);
        addBytes(c);
        addBytes(d);
        addBytes(e);
        return taped;
    }

    private void addBytes(int number) {
        for (int shift = 24; shift >= 0 && taped < tape.length; shift -= 8) {
            tape[taped] = (number >> shift) & 255;
            taped++;
        }
    }

    public boolean end(int n) {
        if (n < 0 || n > taped) {
            refuse(REFUSED_TAPE);
            return false;
        }
        taped = n;
        return true;
    }

    /** The tape goes with a fault too: what stays then is the house and its plan. */
    public int house() {
        statements.begin(spare, taped);
        taped = 0;
        for (int k = 0; k < TAPE_LIMIT && !statements.reader.isOver(); k++) {
            statements.readNext();
        }
        faultKind = statements.reader.fault;
        faultPlace = statements.reader.place;
        if (faultKind != 0) {
            return refuse(REFUSED_HOUSE);
        }
        spare.finish();
        House read = spare;
        spare = plan.house;
        plan.begin(read);
        return statements.count;
    }

    public int fault(int what) {
        switch (what) {
            case 0:
                return faultKind;
            case 1:
                return faultPlace;
            default:
                return NONE;
        }
    }

    public int has(int what) {
        House house = plan.house;
        switch (what) {
            case 0:
                return house.floors.count;
            case 1:
                return house.teams;
            case 2:
                return house.people.count;
            case 3:
                return house.ties;
            case 4:
                return house.floors.allDesks;
            case 5:
                return house.floors.allOwned;
            case 6:
                return house.rules.count;
            case 7:
                return house.stand;
            case 8:
                return house.meetingTeams();
            default:
                return NONE;
        }
    }

    public int letter(int kind, int which, int k) {
        House house = plan.house;
        switch (kind) {
            case 0:
                return isBelow(which, house.floors.count) ? letterOf(house.floors.name[which], k) : NONE;
            case 1:
                return isBelow(which, house.teams) ? letterOf(house.teamName[which], k) : NONE;
            case 2:
                return isBelow(which, house.people.count) ? letterOf(house.people.name[which], k) : NONE;
            default:
                return NONE;
        }
    }

    /** A name's letters stand in one number, five bits each, the last one lowest. */
    private static int letterOf(int name, int k) {
        int length = 0;
        for (int rest = name; rest > 0 && length < Reader.WORD_LETTERS; rest >>= Reader.LETTER_BITS) {
            length++;
        }
        if (!isBelow(k, length)) {
            return NONE;
        }
        int shift = (length - 1 - k) * Reader.LETTER_BITS;
        return ((name >> shift) & Reader.LETTER_MASK) + Reader.BEFORE_A;
    }

    public int person(int person, int what) {
        People people = plan.house.people;
        if (!isPerson(person)) {
            return NONE;
        }
        switch (what) {
            case 0:
                return people.team[person];
            case 1:
                return people.days[person];
            case 2:
                return people.cannot[person];
            case 3:
                return people.comes[person];
            case 4:
                return people.own[person];
            case 5:
                return people.turns[person];
            case 6:
                return plan.sets[person];
            case 7:
                return people.suitingCount[person];
            default:
                return NONE;
        }
    }

    public int floor(int floor, int what) {
        Floors floors = plan.house.floors;
        if (!isBelow(floor, floors.count)) {
            return NONE;
        }
        switch (what) {
            case 0:
                return floors.desks[floor];
            case 1:
                return floors.noise[floor];
            case 2:
                return floors.cost[floor];
            case 3:
                return floors.owned[floor];
            default:
                return NONE;
        }
    }

    // ---- the plan

    public boolean put(int person, int set) {
        if (!isPerson(person) || set < 0 || set > ALL_DAYS) {
            refuse(REFUSED_SET);
            return false;
        }
        plan.sets[person] = set;
        return true;
    }

    /** Refused, it does nothing: the tape stays, unlike that of house() and on(). */
    public boolean row() {
        int persons = plan.house.people.count;
        if (taped != persons || !areSets(0)) {
            refuse(REFUSED_SET);
            return false;
        }
        takeSets(0);
        taped = 0;
        return true;
    }

    /** Whether the tape has a set for each person from this byte on. */
    private boolean areSets(int from) {
        int persons = plan.house.people.count;
        for (int person = 0; person < persons; person++) {
            int at = from + person;
            if (at >= taped || tape[at] > ALL_DAYS) {
                return false;
            }
        }
        return true;
    }

    private void takeSets(int from) {
        int persons = plan.house.people.count;
        for (int person = 0; person < persons && from + person < tape.length; person++) {
            plan.sets[person] = tape[from + person];
        }
    }

    public int day(int day, int what) {
        if (!isDay(day)) {
            return NONE;
        }
        switch (what) {
            case 0:
                return plan.inCount(day);
            case 1:
                return plan.standing(day);
            case 2:
                return plan.house.visitors[day];
            default:
                return NONE;
        }
    }

    public int met(int k) {
        return isBelow(k, plan.house.ties) ? plan.metDays(k) : NONE;
    }

    public int judge(int what) {
        plan.examine();
        switch (what) {
            case 0:
                return plan.wrong;
            case 1:
                return plan.wrongWhich;
            case 2:
                return plan.wrongDay;
            default:
                return NONE;
        }
    }

    public int worth() {
        return plan.total();
    }

    // ---- sought, bettered

    public int seek() {
        int found = seeker.search(plan.house.floors.allDesks - plan.house.floors.allOwned);
        if (found == Seeker.FOUND) {
            seeker.takeFound();
        }
        return found;
    }

    public int spent() {
        return seeker.looked;
    }

    public int fewest() {
        return seeker.fewestDesks();
    }

    public int better(int tries) {
        if (tries < 1 || tries > Seeker.TRIES_LIMIT || !plan.holds()) {
            return refuse(REFUSED_CHANGE);
        }
        return seeker.improve(tries);
    }

    public int both(int first, int second) {
        if (!areTwo(first, second)) {
            refuse(REFUSED_CHANGE);
            return NOTHING;
        }
        return seeker.bestOfTwo(first, second);
    }

    public int trade(int first, int second) {
        return areTwo(first, second) ? seeker.gainOfTrade(first, second) : NOTHING;
    }

    public int should(int what) {
        switch (what) {
            case 0:
                return plan.greatestUnmet();
            case 1:
                return plan.unmetTies();
            case 2:
                return plan.lonelyPersons();
            default:
                return NONE;
        }
    }

    public int bound(boolean gap) {
        int most = plan.house.tieBound();
        return gap ? most - plan.tieWorth() : most;
    }

    // ---- chances

    public long likely(int day, int n) {
        if (!isDay(day) || n < 0 || n > Chances.DESK_LIMIT) {
            return NONE;
        }
        chances.gather(plan, day);
        return chances.above(n);
    }

    public int enough(int day, int part) {
        if (!isDay(day) || !isPart(part)) {
            return NONE;
        }
        chances.gather(plan, day);
        for (int desks = 0; desks <= Chances.DESK_LIMIT; desks++) {
            if (chances.above(desks) <= part * Chances.HUNDREDTH) {
                return desks;
            }
        }
        return NONE;
    }

    public int over(int comes, int n, int part) {
        if (!isPart(comes) || !isPart(part) || n < 0 || n > Chances.BOOKING_LIMIT) {
            return NONE;
        }
        return chances.mostBookings(comes, n, part);
    }

    public long stairs(int day) {
        if (!isDay(day)) {
            return NONE;
        }
        chances.gather(plan, day);
        return chances.meanAbove(plan.house.floors.allDesks);
    }

    public int draw(int day) {
        if (!isDay(day)) {
            return NONE;
        }
        House house = plan.house;
        int came = 0;
        for (int person = 0; person < house.people.count; person++) {
            if (plan.isIn(person, day)) {
                came += drawComer(house.people.comes[person]);
            }
        }
        for (int visitor = 0; visitor < house.visitors[day]; visitor++) {
            came += drawComer(house.visitComes[day]);
        }
        return came;
    }

    private int drawComer(int comes) {
        seedNow = (1103515245L * seedNow + 12345L) & 0x7fffffffL;
        return (seedNow / 64) % 100 < comes ? 1 : 0;
    }

    public boolean seed(int to) {
        if (to < 0) {
            refuse(REFUSED_SEED);
            return false;
        }
        seedNow = to;
        return true;
    }

    // ---- each alone

    public int alone(int person) {
        return isPerson(person) ? plan.aloneWith(person, plan.sets[person]) : NOTHING;
    }

    public int free(int n) {
        if (n < 1 || n > Plan.ROUND_LIMIT) {
            return refuse(REFUSED_CHANGE);
        }
        return plan.roundsTillRest(n);
    }

    // ---- seats

    public int seat(int day, int person) {
        if (!isDay(day) || !isPerson(person)) {
            return NONE;
        }
        seats.settle(day);
        seats.exchangeAll();
        return seats.place[person];
    }

    public int fit(int day, int what) {
        if (!isDay(day) || what < 0 || what > 2) {
            return NOTHING;
        }
        seats.settle(day);
        if (what == 0) {
            return seats.fitNow();
        }
        int exchanges = seats.exchangeAll();
        return what == 1 ? seats.fitNow() : exchanges;
    }

    public int shut(int day) {
        return isDay(day) ? seats.dearestToShut(day) : NONE;
    }

    // ---- weeks

    public int never(int n) {
        return n >= 1 && n <= WEEK_LIMIT ? plan.unmetWithin(n) : NONE;
    }

    public int weeks() {
        for (int n = 1; n <= WEEK_LIMIT; n++) {
            if (plan.unmetWithin(n) == 0) {
                return n;
            }
        }
        return NONE;
    }

    public int grow(int days) {
        return days >= 0 && days <= WEEK_DAYS ? plan.setsForOneMore(days) : NONE;
    }

    public int move(int person) {
        return isPerson(person) ? seeker.otherSets(person) : NONE;
    }

    // ---- images

    public int image() {
        int persons = plan.house.people.count;
        written[0] = persons;
        for (int person = 0; person < persons; person++) {
            written[person + 1] = plan.sets[person];
        }
        written[persons + 1] = checkByte(written, persons + 1);
        writtenSize = persons + 2;
        return writtenSize;
    }

    private static int checkByte(int[] bytes, int size) {
        int check = IMAGE_START;
        for (int k = 0; k < size && k < bytes.length; k++) {
            check = (IMAGE_FACTOR * check + bytes[k]) % IMAGE_MODULUS;
        }
        return check;
    }

    public int octet(int k) {
        return isBelow(k, writtenSize) ? written[k] : NONE;
    }

    /** The tape goes if it is no image too: what stays then is the plan. */
    public boolean on() {
        boolean isTaken = isImage();
        if (isTaken) {
            takeSets(1);
        } else {
            refuse(REFUSED_IMAGE);
        }
        taped = 0;
        return isTaken;
    }

    private boolean isImage() {
        int persons = plan.house.people.count;
        if (taped != persons + 2 || tape[0] != persons || !areSets(1)) {
            return false;
        }
        return tape[persons + 1] == checkByte(tape, persons + 1);
    }

    public int status(int what) {
        return isBelow(what, REFUSAL_KINDS) ? refusals[what] : NONE;
    }

    // ---- what arguments may be

    private int refuse(int kind) {
        refusals[kind]++;
        return NONE;
    }

    private static boolean isBelow(int number, int limit) {
        return number >= 0 && number < limit;
    }

    private static boolean isDay(int number) {
        return isBelow(number, WEEK_DAYS);
    }

    private static boolean isPart(int number) {
        return number >= 0 && number <= 100;
    }

    private boolean isPerson(int number) {
        return isBelow(number, plan.house.people.count);
    }

    private boolean areTwo(int first, int second) {
        return isPerson(first) && isPerson(second) && first != second;
    }

    // ---- the house

    private static final class Floors {
        int count = 0;
        int allDesks = 0;
        int allOwned = 0;
        final int[] name = new int[FLOOR_LIMIT];
        final int[] desks = new int[FLOOR_LIMIT];
        final int[] noise = new int[FLOOR_LIMIT];
        final int[] cost = new int[FLOOR_LIMIT];
        final int[] owned = new int[FLOOR_LIMIT];

        void clear() {
            count = 0;
            allDesks = 0;
            allOwned = 0;
        }

        void add(int newName, int newDesks, int newNoise, int newCost) {
            if (count >= FLOOR_LIMIT) {
                return;
            }
            name[count] = newName;
            desks[count] = newDesks;
            noise[count] = newNoise;
            cost[count] = newCost;
            owned[count] = 0;
            allDesks += newDesks;
            count++;
        }
    }

    private static final class People {
        int count = 0;
        final int[] name = new int[PERSON_LIMIT];
        final int[] team = new int[PERSON_LIMIT];
        final int[] days = new int[PERSON_LIMIT];
        final int[] cannot = new int[PERSON_LIMIT];
        final int[] comes = new int[PERSON_LIMIT];
        final int[] own = new int[PERSON_LIMIT];
        final int[] turns = new int[PERSON_LIMIT];
        final int[] likes = new int[PERSON_LIMIT * WEEK_DAYS];
        /** The sets that suit a person, rising, from SUITING_LIMIT times its number on. */
        final int[] suiting = new int[PERSON_LIMIT * SUITING_LIMIT];
        final int[] suitingCount = new int[PERSON_LIMIT];

        void add(int newName, int newTeam, int newDays) {
            if (count >= PERSON_LIMIT) {
                return;
            }
            name[count] = newName;
            team[count] = newTeam;
            days[count] = newDays;
            cannot[count] = 0;
            comes[count] = 100;
            own[count] = NONE;
            turns[count] = 0;
            for (int day = 0; day < WEEK_DAYS; day++) {
                likes[count * WEEK_DAYS + day] = 0;
            }
            count++;
        }

        boolean isSuited(int person, int set) {
            return (set & cannot[person]) == 0 && Integer.bitCount(set) == days[person];
        }

        void listSuiting() {
            for (int person = 0; person < count; person++) {
                int found = 0;
                for (int set = 0; set <= ALL_DAYS; set++) {
                    if (isSuited(person, set) && found < SUITING_LIMIT) {
                        suiting[person * SUITING_LIMIT + found] = set;
                        found++;
                    }
                }
                suitingCount[person] = found;
            }
        }
    }

    private static final class House {
        private static final int STAND_WITHOUT = 50;

        final Floors floors = new Floors();
        final People people = new People();
        final Rules rules = new Rules();
        int teams = 0;
        final int[] teamName = new int[TEAM_LIMIT];
        final boolean[] mustMeet = new boolean[TEAM_LIMIT];
        /** The last person of each team by number; NONE of a team without persons. */
        final int[] lastMember = new int[TEAM_LIMIT];
        int ties = 0;
        final int[] tieFirst = new int[TIE_LIMIT];
        final int[] tieSecond = new int[TIE_LIMIT];
        final int[] tieNumber = new int[TIE_LIMIT];
        final int[] visitors = new int[WEEK_DAYS];
        final int[] visitComes = new int[WEEK_DAYS];
        int stand = STAND_WITHOUT;

        void clear() {
            floors.clear();
            people.count = 0;
            rules.clear();
            teams = 0;
            ties = 0;
            stand = STAND_WITHOUT;
            for (int day = 0; day < WEEK_DAYS; day++) {
                visitors[day] = 0;
                visitComes[day] = 0;
            }
        }

        void addTeam(int name) {
            if (teams < TEAM_LIMIT) {
                teamName[teams] = name;
                mustMeet[teams] = false;
                teams++;
            }
        }

        void addTie(int first, int second, int number) {
            if (ties < TIE_LIMIT) {
                tieFirst[ties] = first;
                tieSecond[ties] = second;
                tieNumber[ties] = number;
                ties++;
            }
        }

        void finish() {
            people.listSuiting();
            for (int team = 0; team < TEAM_LIMIT; team++) {
                lastMember[team] = NONE;
            }
            for (int person = 0; person < people.count; person++) {
                lastMember[people.team[person]] = person;
            }
        }

        int findFloor(int name) {
            return find(floors.name, floors.count, name);
        }

        int findTeam(int name) {
            return find(teamName, teams, name);
        }

        int findPerson(int name) {
            return find(people.name, people.count, name);
        }

        private static int find(int[] names, int count, int name) {
            for (int k = 0; k < count && k < names.length; k++) {
                if (names[k] == name) {
                    return k;
                }
            }
            return NONE;
        }

        boolean isNamed(int name) {
            return findFloor(name) != NONE || findTeam(name) != NONE || findPerson(name) != NONE;
        }

        int meetingTeams() {
            int meeting = 0;
            for (int team = 0; team < teams; team++) {
                if (mustMeet[team]) {
                    meeting++;
                }
            }
            return meeting;
        }

        int tieBound() {
            int sum = 0;
            for (int tie = 0; tie < ties; tie++) {
                int first = tieFirst[tie];
                int second = tieSecond[tie];
                int fewerDays = Math.min(people.days[first], people.days[second]);
                int neitherCannot = ALL_DAYS & ~(people.cannot[first] | people.cannot[second]);
                sum += tieNumber[tie] * Math.min(fewerDays, Integer.bitCount(neitherCannot));
            }
            return sum;
        }
    }

    // ---- rules

    /** Sums and tests as rows of steps over a stack: a run of them makes no objects. */
    private static final class Rules {
        static final int NUMBER = 0;
        static final int THE_DAY = 1;
        static final int THE_PERSON = 2;
        static final int THE_CREW = 3;
        static final int HOW_MANY = 4;
        static final int THE_ROOM = 5;
        static final int ALWAYS = 6;
        static final int NOT = 7;
        static final int PLUS = 8;
        static final int MINUS = 9;
        static final int TIMES = 10;
        static final int QUOTIENT = 11;
        static final int REMAINDER = 12;
        static final int LESSER = 13;
        static final int GREATER = 14;
        static final int IS_BELOW = 15;
        static final int IS_ABOVE = 16;
        static final int IS_LIKE = 17;
        static final int AND = 18;
        static final int OR = 19;
        private static final int KIND_BITS = 5;
        private static final int KIND_MASK = 31;
        private static final int FACT_COUNT = 6;
        private static final long MOST = 1000000;
        /** Nine levels of brackets, six steps at most waiting on each. */
        private static final int STACK_SIZE = 64;

        int count = 0;
        private int used = 0;
        private final int[] steps = new int[TAPE_LIMIT];
        private final int[] sumFrom = new int[RULE_LIMIT];
        private final int[] testFrom = new int[RULE_LIMIT];
        private final int[] testTo = new int[RULE_LIMIT];
        private final int[] facts = new int[FACT_COUNT];
        private final int[] stack = new int[STACK_SIZE];

        void clear() {
            count = 0;
            used = 0;
        }

        void beginSum() {
            if (count < RULE_LIMIT) {
                sumFrom[count] = used;
            }
        }

        void beginTest() {
            if (count < RULE_LIMIT) {
                testFrom[count] = used;
            }
        }

        void close() {
            if (count < RULE_LIMIT) {
                testTo[count] = used;
                count++;
            }
        }

        void addStep(int kind, int number) {
            if (used < steps.length) {
                steps[used] = kind | (number << KIND_BITS);
                used++;
            }
        }

        int firstSum(int day, int person, int crew, int many, int room) {
            facts[THE_DAY] = day;
            facts[THE_PERSON] = person;
            facts[THE_CREW] = crew;
            facts[HOW_MANY] = many;
            facts[THE_ROOM] = room;
            for (int rule = 0; rule < count; rule++) {
                if (run(testFrom[rule], testTo[rule]) != 0) {
                    return run(sumFrom[rule], testFrom[rule]);
                }
            }
            return 0;
        }

        private int run(int from, int to) {
            int height = 0;
            for (int at = from; at < to && at < steps.length; at++) {
                int kind = steps[at] & KIND_MASK;
                if (kind < NOT) {
                    if (height >= STACK_SIZE) {
                        return 0;
                    }
                    stack[height] = given(kind, steps[at] >> KIND_BITS);
                    height++;
                } else if (kind == NOT) {
                    if (height < 1) {
                        return 0;
                    }
                    stack[height - 1] = 1 - stack[height - 1];
                } else {
                    if (height < 2) {
                        return 0;
                    }
                    height--;
                    stack[height - 1] = joined(kind, stack[height - 1], stack[height]);
                }
            }
            return height > 0 ? stack[0] : 0;
        }

        private int given(int kind, int number) {
            if (kind == NUMBER) {
                return number;
            }
            return kind < FACT_COUNT ? facts[kind] : 1;
        }

        private static int joined(int kind, int left, int right) {
            switch (kind) {
                case PLUS:
                    return limited((long) left + right);
                case MINUS:
                    return limited((long) left - right);
                case TIMES:
                    return limited((long) left * right);
                case QUOTIENT:
                    return right == 0 ? 0 : Math.floorDiv(left, right);
                case REMAINDER:
                    return right == 0 ? 0 : Math.floorMod(left, right);
                case LESSER:
                    return Math.min(left, right);
                case GREATER:
                    return Math.max(left, right);
                case IS_BELOW:
                    return left < right ? 1 : 0;
                case IS_ABOVE:
                    return left > right ? 1 : 0;
                case IS_LIKE:
                    return left == right ? 1 : 0;
                case AND:
                    return left & right;
                default:
                    return left | right;
            }
        }

        private static int limited(long number) {
            if (number > MOST) {
                return (int) MOST;
            }
            return number < -MOST ? (int) -MOST : (int) number;
        }
    }

    // ---- the text

    /** Words, numbers and signs of the text, one at a time; the first fault stays. */
    private static final class Reader {
        static final int WORD_LETTERS = 6;
        static final int LETTER_BITS = 5;
        static final int LETTER_MASK = 31;
        static final int BEFORE_A = 96;
        private static final int NUMBER_DIGITS = 4;

        static final int OVER = 0;
        static final int WORD = 1;
        static final int NUMBER = 2;
        static final int SIGN = 3;

        static final int FLOOR = 0;
        static final int DESKS = 1;
        static final int NOISE = 2;
        static final int COST = 3;
        static final int TEAM = 4;
        static final int PERSON = 5;
        static final int DAYS = 6;
        static final int CANNOT = 7;
        static final int LIKES = 8;
        static final int TIE = 9;
        static final int COMES = 10;
        static final int VISIT = 11;
        static final int OWN = 12;
        static final int MEET = 13;
        static final int TURNS = 14;
        static final int STAND = 15;
        static final int WORTH = 16;
        static final int MONDAY = 17;
        static final int FRIDAY = 21;
        static final int WHEN = 22;
        static final int OR = 23;
        static final int AND = 24;
        static final int NOT = 25;
        static final int ALL = 26;
        static final int DAY = 27;
        static final int CREW = 28;
        static final int MANY = 29;
        static final int ROOM = 30;
        static final int MIN = 31;
        static final int MAX = 32;
        private static final int OWN_COUNT = 33;
        /** In the order of the numbers above. */
        private static final String OWN_WORDS = "floor desks noise cost team person days cannot likes tie comes visit own meet turns stand worth mon tue wed thu fri when or and not all day crew many room min max";

        private final int[] text;
        private int size = 0;
        private int at = 0;
        private int start = 0;
        private int kind = OVER;
        /** Of a word its letters as one number, of a number itself, of a sign its byte. */
        int value = 0;
        /** The number of an own word; NONE for all else. */
        int ownWord = NONE;
        int fault = 0;
        int place = NONE;
        private final int[] ownCodes = new int[OWN_COUNT];

        Reader(int[] bytes) {
            text = bytes;
            listOwnWords();
        }

        private void listOwnWords() {
            int word = 0;
            for (int k = 0; k < OWN_WORDS.length(); k++) {
                char sign = OWN_WORDS.charAt(k);
                if (sign == ' ') {
                    word++;
                } else if (word < OWN_COUNT) {
                    ownCodes[word] = withLetter(ownCodes[word], sign);
                }
            }
        }

        private static int withLetter(int code, int letter) {
            return (code << LETTER_BITS) | (letter - BEFORE_A);
        }

        void begin(int textSize) {
            size = Math.max(0, Math.min(textSize, text.length));
            at = 0;
            kind = OVER;
            fault = 0;
            place = NONE;
            take();
        }

        boolean isFailed() {
            return fault != 0;
        }

        void fail(int newFault) {
            failAt(newFault, start);
        }

        private void failAt(int newFault, int newPlace) {
            if (fault == 0) {
                fault = newFault;
                place = newPlace;
            }
            kind = OVER;
            ownWord = NONE;
        }

        boolean isOver() {
            return kind == OVER;
        }

        boolean isSign(int sign) {
            return kind == SIGN && value == sign;
        }

        boolean isNumber() {
            return kind == NUMBER;
        }

        boolean isName() {
            return kind == WORD && ownWord == NONE;
        }

        void takeSign(int sign) {
            if (isSign(sign)) {
                take();
            } else {
                fail(WRONG_BYTE);
            }
        }

        void takeOwnWord(int word) {
            if (ownWord == word) {
                take();
            } else {
                fail(WRONG_BYTE);
            }
        }

        /** The next one; what stands now has to be looked at first, as faults count along the text. */
        void take() {
            if (isFailed()) {
                return;
            }
            boolean needsBlank = kind == WORD || kind == NUMBER;
            int after = at;
            while (at < size && isBlank(text[at])) {
                at++;
            }
            start = at;
            kind = OVER;
            ownWord = NONE;
            if (at >= size) {
                return;
            }
            int first = text[at];
            if (needsBlank && at == after && (isLetter(first) || isDigit(first))) {
                fail(WRONG_BYTE);
            } else if (isLetter(first)) {
                takeLetters();
            } else if (isDigit(first)) {
                takeDigits();
            } else {
                kind = SIGN;
                value = first;
                at++;
            }
        }

        private void takeLetters() {
            int code = 0;
            for (; at < size && isLetter(text[at]); at++) {
                if (at - start >= WORD_LETTERS) {
                    failAt(WRONG_BYTE, at);
                    return;
                }
                code = withLetter(code, text[at]);
            }
            kind = WORD;
            value = code;
            ownWord = NONE;
            for (int word = 0; word < OWN_COUNT; word++) {
                if (ownCodes[word] == code) {
                    ownWord = word;
                }
            }
        }

        private void takeDigits() {
            int number = 0;
            for (; at < size && isDigit(text[at]); at++) {
                if (at - start >= NUMBER_DIGITS) {
                    failAt(WRONG_BYTE, at);
                    return;
                }
                number = number * 10 + text[at] - '0';
            }
            kind = NUMBER;
            value = number;
        }

        private static boolean isBlank(int sign) {
            return sign == 10 || sign == 32;
        }

        private static boolean isLetter(int sign) {
            return sign >= 'a' && sign <= 'z';
        }

        private static boolean isDigit(int sign) {
            return sign >= '0' && sign <= '9';
        }
    }

    /** Reads the statements of a text into a house, one at a time. */
    private static final class Statements {
        final Reader reader;
        private final RuleReader ruleReader;
        private House house;
        int count = 0;

        Statements(Reader newReader, House first) {
            reader = newReader;
            house = first;
            ruleReader = new RuleReader(newReader, first.rules);
        }

        void begin(House target, int size) {
            house = target;
            house.clear();
            count = 0;
            reader.begin(size);
        }

        void readNext() {
            switch (reader.ownWord) {
                case Reader.FLOOR:
                    readFloor();
                    break;
                case Reader.TEAM:
                    readTeam();
                    break;
                case Reader.PERSON:
                    readPerson();
                    break;
                case Reader.CANNOT:
                    readCannot();
                    break;
                case Reader.LIKES:
                    readLikes();
                    break;
                case Reader.TIE:
                    readTie();
                    break;
                case Reader.COMES:
                    readComes();
                    break;
                case Reader.VISIT:
                    readVisit();
                    break;
                case Reader.OWN:
                    readOwn();
                    break;
                case Reader.MEET:
                    readMeet();
                    break;
                case Reader.TURNS:
                    readTurns();
                    break;
                case Reader.STAND:
                    readStand();
                    break;
                case Reader.WORTH:
                    beginOneOf(house.rules.count, RULE_LIMIT);
                    ruleReader.read(house.rules);
                    break;
                default:
                    reader.fail(WRONG_BYTE);
                    break;
            }
            reader.takeSign(';');
            count++;
        }

        private void readFloor() {
            beginOneOf(house.floors.count, FLOOR_LIMIT);
            int name = takeNewName();
            reader.takeOwnWord(Reader.DESKS);
            int desks = takeNumber(20);
            reader.takeOwnWord(Reader.NOISE);
            int noise = takeNumber(99);
            reader.takeOwnWord(Reader.COST);
            int cost = takeNumber(999);
            if (!reader.isFailed()) {
                house.floors.add(name, desks, noise, cost);
            }
        }

        private void readTeam() {
            beginOneOf(house.teams, TEAM_LIMIT);
            int name = takeNewName();
            if (!reader.isFailed()) {
                house.addTeam(name);
            }
        }

        private void readPerson() {
            beginOneOf(house.people.count, PERSON_LIMIT);
            int name = takeNewName();
            reader.takeOwnWord(Reader.TEAM);
            int team = takeTeam();
            reader.takeOwnWord(Reader.DAYS);
            int days = takeNumber(WEEK_DAYS);
            if (!reader.isFailed()) {
                house.people.add(name, team, days);
            }
        }

        private void readCannot() {
            reader.take();
            int person = takePerson();
            int day = takeDay();
            if (!reader.isFailed()) {
                house.people.cannot[person] |= 1 << day;
            }
        }

        private void readLikes() {
            reader.take();
            int person = takePerson();
            int day = takeDay();
            int number = takeNumber(99);
            if (!reader.isFailed()) {
                house.people.likes[person * WEEK_DAYS + day] = number;
            }
        }

        private void readTie() {
            beginOneOf(house.ties, TIE_LIMIT);
            int first = takePerson();
            int second = askPerson();
            if (first == second) {
                reader.fail(NAME_UNFIT);
            }
            reader.take();
            int number = takeNumber(99);
            if (!reader.isFailed()) {
                house.addTie(first, second, number);
            }
        }

        private void readComes() {
            reader.take();
            int person = takePerson();
            int number = takeNumber(100);
            if (!reader.isFailed()) {
                house.people.comes[person] = number;
            }
        }

        private void readVisit() {
            reader.take();
            int day = takeDay();
            int visitors = takeNumber(9);
            int comes = takeNumber(100);
            if (!reader.isFailed()) {
                house.visitors[day] = visitors;
                house.visitComes[day] = comes;
            }
        }

        private void readOwn() {
            reader.take();
            int person = askPerson();
            if (!reader.isFailed() && house.people.own[person] != NONE) {
                reader.fail(NAME_UNFIT);
            }
            reader.take();
            int floor = askName(house.findFloor(reader.value));
            if (!reader.isFailed() && house.floors.owned[floor] >= house.floors.desks[floor]) {
                reader.fail(NAME_UNFIT);
            }
            reader.take();
            if (!reader.isFailed()) {
                house.people.own[person] = floor;
                house.floors.owned[floor]++;
                house.floors.allOwned++;
            }
        }

        private void readMeet() {
            reader.take();
            int team = takeTeam();
            if (!reader.isFailed()) {
                house.mustMeet[team] = true;
            }
        }

        private void readTurns() {
            reader.take();
            int person = takePerson();
            int number = takeNumber(4);
            if (!reader.isFailed()) {
                house.people.turns[person] = number;
            }
        }

        private void readStand() {
            reader.take();
            int number = takeNumber(999);
            if (!reader.isFailed()) {
                house.stand = number;
            }
        }

        private void beginOneOf(int present, int limit) {
            if (present >= limit) {
                reader.fail(TOO_MANY);
            }
            reader.take();
        }

        private int takeNewName() {
            int name = reader.value;
            if (!reader.isName()) {
                reader.fail(WRONG_BYTE);
            } else if (house.isNamed(name)) {
                reader.fail(NAME_TAKEN);
            }
            reader.take();
            return name;
        }

        /** What a name now at hand stands for, as it was found; a fault if it is none or not found. */
        private int askName(int found) {
            if (!reader.isName()) {
                reader.fail(WRONG_BYTE);
            } else if (found == NONE) {
                reader.fail(NAME_UNFIT);
            }
            return found;
        }

        private int askPerson() {
            return askName(house.findPerson(reader.value));
        }

        private int takePerson() {
            int person = askPerson();
            reader.take();
            return person;
        }

        private int takeTeam() {
            int team = askName(house.findTeam(reader.value));
            reader.take();
            return team;
        }

        private int takeDay() {
            int day = reader.ownWord - Reader.MONDAY;
            if (!isDay(day)) {
                reader.fail(WRONG_BYTE);
            }
            reader.take();
            return day;
        }

        private int takeNumber(int most) {
            int number = reader.value;
            if (!reader.isNumber()) {
                reader.fail(WRONG_BYTE);
            } else if (number > most) {
                reader.fail(NUMBER_UNFIT);
            }
            reader.take();
            return number;
        }
    }

    /** Reads "SUM when TEST"; open counts the brackets that are open, and none goes beyond OPEN_LIMIT. */
    private static final class RuleReader {
        private static final int OPEN_LIMIT = 8;

        private final Reader reader;
        private Rules rules;

        RuleReader(Reader newReader, Rules first) {
            reader = newReader;
            rules = first;
        }

        void read(Rules target) {
            rules = target;
            rules.beginSum();
            readSum(0);
            reader.takeOwnWord(Reader.WHEN);
            rules.beginTest();
            readTest(0);
            rules.close();
        }

        private void readTest(int open) {
            readBoth(open);
            for (int k = 0; k < TAPE_LIMIT && reader.ownWord == Reader.OR; k++) {
                reader.take();
                readBoth(open);
                rules.addStep(Rules.OR, 0);
            }
        }

        private void readBoth(int open) {
            readFact(open);
            for (int k = 0; k < TAPE_LIMIT && reader.ownWord == Reader.AND; k++) {
                reader.take();
                readFact(open);
                rules.addStep(Rules.AND, 0);
            }
        }

        /** Many a "not" may stand in a row: they are counted, not gone into. */
        private void readFact(int open) {
            boolean isTurned = false;
            for (int k = 0; k < TAPE_LIMIT && reader.ownWord == Reader.NOT; k++) {
                reader.take();
                isTurned = !isTurned;
            }
            if (reader.isSign('[')) {
                if (takeOpening('[', open)) {
                    readTest(open + 1);
                    reader.takeSign(']');
                }
            } else if (reader.ownWord == Reader.ALL) {
                addTaken(Rules.ALWAYS, 0);
            } else {
                readSum(open);
                int comparison = takeComparison();
                readSum(open);
                rules.addStep(comparison, 0);
            }
            if (isTurned) {
                rules.addStep(Rules.NOT, 0);
            }
        }

        private int takeComparison() {
            int kind = Rules.IS_LIKE;
            if (reader.isSign('<')) {
                kind = Rules.IS_BELOW;
            } else if (reader.isSign('>')) {
                kind = Rules.IS_ABOVE;
            } else if (!reader.isSign('=')) {
                reader.fail(WRONG_BYTE);
            }
            reader.take();
            return kind;
        }

        private void readSum(int open) {
            readProduct(open);
            for (int k = 0; k < TAPE_LIMIT && (reader.isSign('+') || reader.isSign('-')); k++) {
                int kind = reader.isSign('+') ? Rules.PLUS : Rules.MINUS;
                reader.take();
                readProduct(open);
                rules.addStep(kind, 0);
            }
        }

        private void readProduct(int open) {
            readPart(open);
            for (int k = 0; k < TAPE_LIMIT && productKind() != NONE; k++) {
                int kind = productKind();
                reader.take();
                readPart(open);
                rules.addStep(kind, 0);
            }
        }

        private int productKind() {
            if (reader.isSign('*')) {
                return Rules.TIMES;
            }
            if (reader.isSign('/')) {
                return Rules.QUOTIENT;
            }
            return reader.isSign('%') ? Rules.REMAINDER : NONE;
        }

        private void readPart(int open) {
            if (reader.isNumber()) {
                addTaken(Rules.NUMBER, reader.value);
                return;
            }
            switch (reader.ownWord) {
                case Reader.DAY:
                    addTaken(Rules.THE_DAY, 0);
                    break;
                case Reader.PERSON:
                    addTaken(Rules.THE_PERSON, 0);
                    break;
                case Reader.CREW:
                    addTaken(Rules.THE_CREW, 0);
                    break;
                case Reader.MANY:
                    addTaken(Rules.HOW_MANY, 0);
                    break;
                case Reader.ROOM:
                    addTaken(Rules.THE_ROOM, 0);
                    break;
                case Reader.MIN:
                    readPair(open, Rules.LESSER);
                    break;
                case Reader.MAX:
                    readPair(open, Rules.GREATER);
                    break;
                default:
                    if (takeOpening('(', open)) {
                        readSum(open + 1);
                        reader.takeSign(')');
                    }
                    break;
            }
        }

        private void readPair(int open, int kind) {
            reader.take();
            if (takeOpening('(', open)) {
                readSum(open + 1);
                reader.takeSign(',');
                readSum(open + 1);
                reader.takeSign(')');
                rules.addStep(kind, 0);
            }
        }

        private boolean takeOpening(int sign, int open) {
            if (!reader.isSign(sign)) {
                reader.fail(WRONG_BYTE);
            } else if (open >= OPEN_LIMIT) {
                reader.fail(TOO_MANY);
            }
            reader.take();
            return !reader.isFailed();
        }

        private void addTaken(int kind, int number) {
            rules.addStep(kind, number);
            reader.take();
        }
    }

    // ---- the plan of days

    private static final class Plan {
        static final int ROUND_LIMIT = 60;
        private static final int MANY_KINDS = PERSON_LIMIT + 1;
        /** No sum of a rule is so low. */
        private static final int UNKNOWN = -2000000;

        House house;
        final int[] sets = new int[PERSON_LIMIT];
        int wrong = 0;
        int wrongWhich = NONE;
        int wrongDay = NONE;
        /** What rules gave by person, day and how many are in: plans are compared by the thousand. */
        private final int[] ruled = new int[PERSON_LIMIT * WEEK_DAYS * MANY_KINDS];

        Plan(House first) {
            house = first;
            Arrays.fill(ruled, UNKNOWN);
        }

        void begin(House next) {
            house = next;
            Arrays.fill(sets, 0);
            Arrays.fill(ruled, UNKNOWN);
        }

        boolean isIn(int person, int day) {
            return ((sets[person] >> day) & 1) == 1;
        }

        int inCount(int day) {
            int count = 0;
            for (int person = 0; person < house.people.count; person++) {
                count += (sets[person] >> day) & 1;
            }
            return count;
        }

        int inWithoutOwn(int day) {
            int count = 0;
            for (int person = 0; person < house.people.count; person++) {
                if (house.people.own[person] == NONE) {
                    count += (sets[person] >> day) & 1;
                }
            }
            return count;
        }

        int standing(int day) {
            return Math.max(0, inWithoutOwn(day) - (house.floors.allDesks - house.floors.allOwned));
        }

        boolean holds() {
            examine();
            return wrong == 0;
        }

        /** Sets wrong, wrongWhich and wrongDay. */
        void examine() {
            wrong = 0;
            wrongWhich = NONE;
            wrongDay = NONE;
            findForbiddenDay();
            if (wrong == 0) {
                findOtherNumber();
            }
            if (wrong == 0) {
                findStanding();
            }
            if (wrong == 0) {
                findTeamApart();
            }
        }

        private void findForbiddenDay() {
            for (int person = 0; person < house.people.count; person++) {
                int forbidden = sets[person] & house.people.cannot[person];
                for (int day = 0; day < WEEK_DAYS && forbidden != 0; day++) {
                    if (((forbidden >> day) & 1) == 1) {
                        wrong = 1;
                        wrongWhich = person;
                        wrongDay = day;
                        return;
                    }
                }
            }
        }

        private void findOtherNumber() {
            for (int person = 0; person < house.people.count; person++) {
                if (Integer.bitCount(sets[person]) != house.people.days[person]) {
                    wrong = 2;
                    wrongWhich = person;
                    return;
                }
            }
        }

        private void findStanding() {
            for (int day = 0; day < WEEK_DAYS; day++) {
                if (standing(day) > 0) {
                    wrong = 3;
                    wrongWhich = day;
                    return;
                }
            }
        }

        private void findTeamApart() {
            for (int team = 0; team < house.teams; team++) {
                if (house.mustMeet[team] && house.lastMember[team] != NONE && commonDays(sets, team) == 0) {
                    wrong = 4;
                    wrongWhich = team;
                    return;
                }
            }
        }

        /** The days on which all persons of a team are in by these sets. */
        int commonDays(int[] someSets, int team) {
            int common = ALL_DAYS;
            for (int person = 0; person < house.people.count; person++) {
                if (house.people.team[person] == team) {
                    common &= someSets[person];
                }
            }
            return common;
        }

        int metDays(int tie) {
            return Integer.bitCount(sets[house.tieFirst[tie]] & sets[house.tieSecond[tie]]);
        }

        int tieWorth() {
            int sum = 0;
            for (int tie = 0; tie < house.ties; tie++) {
                sum += house.tieNumber[tie] * metDays(tie);
            }
            return sum;
        }

        /** The plan's worth. */
        int total() {
            int sum = tieWorth();
            for (int day = 0; day < WEEK_DAYS; day++) {
                int many = inCount(day);
                for (int person = 0; person < house.people.count; person++) {
                    if (isIn(person, day)) {
                        sum += house.people.likes[person * WEEK_DAYS + day] + ruledSum(person, day, many);
                    }
                }
            }
            return sum;
        }

        private int ruledSum(int person, int day, int many) {
            if (house.rules.count == 0) {
                return 0;
            }
            int at = (person * WEEK_DAYS + day) * MANY_KINDS + many;
            if (ruled[at] == UNKNOWN) {
                ruled[at] = house.rules.firstSum(day, person, house.people.team[person], many, house.floors.allDesks);
            }
            return ruled[at];
        }

        int greatestUnmet() {
            int greatest = NONE;
            for (int tie = 0; tie < house.ties; tie++) {
                if (metDays(tie) == 0 && (greatest == NONE || house.tieNumber[tie] > house.tieNumber[greatest])) {
                    greatest = tie;
                }
            }
            return greatest;
        }

        int unmetTies() {
            int count = 0;
            for (int tie = 0; tie < house.ties; tie++) {
                if (metDays(tie) == 0) {
                    count++;
                }
            }
            return count;
        }

        int lonelyPersons() {
            int count = 0;
            for (int person = 0; person < house.people.count; person++) {
                if (isLonely(person)) {
                    count++;
                }
            }
            return count;
        }

        private boolean isLonely(int person) {
            boolean isTied = false;
            for (int tie = 0; tie < house.ties; tie++) {
                if (house.tieFirst[tie] == person || house.tieSecond[tie] == person) {
                    isTied = true;
                    if (metDays(tie) > 0) {
                        return false;
                    }
                }
            }
            return isTied;
        }

        int aloneWith(int person, int set) {
            int kept = sets[person];
            sets[person] = set;
            int sum = 0;
            for (int tie = 0; tie < house.ties; tie++) {
                if (house.tieFirst[tie] == person || house.tieSecond[tie] == person) {
                    sum += house.tieNumber[tie] * metDays(tie);
                }
            }
            for (int day = 0; day < WEEK_DAYS; day++) {
                if (isIn(person, day)) {
                    sum += house.people.likes[person * WEEK_DAYS + day];
                    sum -= standing(day) > 0 ? house.stand : 0;
                }
            }
            sets[person] = kept;
            return sum;
        }

        int roundsTillRest(int most) {
            for (int round = 1; round <= most; round++) {
                if (!goRound()) {
                    return round;
                }
            }
            return GIVEN_UP;
        }

        /** Whether somebody's set changed. */
        private boolean goRound() {
            boolean isChanged = false;
            for (int person = 0; person < house.people.count; person++) {
                int chosen = choiceAlone(person);
                if (chosen != sets[person]) {
                    sets[person] = chosen;
                    isChanged = true;
                }
            }
            return isChanged;
        }

        private int choiceAlone(int person) {
            People people = house.people;
            int chosen = sets[person];
            int most = 0;
            for (int k = 0; k < people.suitingCount[person]; k++) {
                int set = people.suiting[person * SUITING_LIMIT + k];
                int sum = aloneWith(person, set);
                if (k == 0 || sum > most) {
                    chosen = set;
                    most = sum;
                }
            }
            return chosen;
        }

        /** How many ties meet in none of so many weeks from the first on. */
        int unmetWithin(int weekCount) {
            int count = 0;
            for (int tie = 0; tie < house.ties; tie++) {
                boolean isMet = false;
                for (int week = 0; week < weekCount && !isMet; week++) {
                    isMet = (turnedSet(house.tieFirst[tie], week) & turnedSet(house.tieSecond[tie], week)) != 0;
                }
                if (!isMet) {
                    count++;
                }
            }
            return count;
        }

        private int turnedSet(int person, int week) {
            int shift = (week * house.people.turns[person]) % WEEK_DAYS;
            return ((sets[person] << shift) | (sets[person] >> (WEEK_DAYS - shift))) & ALL_DAYS;
        }

        int setsForOneMore(int days) {
            int free = 0;
            for (int day = 0; day < WEEK_DAYS; day++) {
                if (inWithoutOwn(day) < house.floors.allDesks - house.floors.allOwned) {
                    free |= 1 << day;
                }
            }
            int count = 0;
            for (int set = 0; set <= ALL_DAYS; set++) {
                if (Integer.bitCount(set) == days && (set & ~free) == 0) {
                    count++;
                }
            }
            return count;
        }
    }

    // ---- plans sought and bettered

    private static final class Seeker {
        static final int FOUND = 1;
        static final int TRIES_LIMIT = 2000;
        private static final int NOT_THERE = 0;
        private static final int LOOK_LIMIT = 20000;
        private static final int MOST_DESKS = 20;
        private static final int STEP_LIMIT = 1000000;

        private final Plan plan;
        /** How many sets the latest search looked at. */
        int looked = 0;
        private final int[] sets = new int[PERSON_LIMIT];
        private final int[] next = new int[PERSON_LIMIT];
        private final int[] loads = new int[WEEK_DAYS];

        Seeker(Plan newPlan) {
            plan = newPlan;
        }

        /** A plan that holds with so many desks beside the owned ones: FOUND, NOT_THERE or GIVEN_UP. */
        int search(int desks) {
            People people = plan.house.people;
            looked = 0;
            Arrays.fill(loads, 0);
            next[0] = 0;
            int person = 0;
            for (int step = 0; step < STEP_LIMIT && person < people.count; step++) {
                if (next[person] >= people.suitingCount[person]) {
                    if (person == 0) {
                        return NOT_THERE;
                    }
                    person--;
                    load(person, -1);
                } else if (looked >= LOOK_LIMIT) {
                    return GIVEN_UP;
                } else {
                    looked++;
                    sets[person] = people.suiting[person * SUITING_LIMIT + next[person]];
                    next[person]++;
                    if (isFitting(person, desks)) {
                        load(person, 1);
                        person++;
                        if (person < people.count) {
                            next[person] = 0;
                        }
                    }
                }
            }
            return FOUND;
        }

        private void load(int person, int by) {
            if (plan.house.people.own[person] == NONE) {
                for (int day = 0; day < WEEK_DAYS; day++) {
                    loads[day] += by * ((sets[person] >> day) & 1);
                }
            }
        }

        private boolean isFitting(int person, int desks) {
            House house = plan.house;
            if (house.people.own[person] == NONE) {
                for (int day = 0; day < WEEK_DAYS; day++) {
                    if (((sets[person] >> day) & 1) == 1 && loads[day] >= desks) {
                        return false;
                    }
                }
            }
            int team = house.people.team[person];
            boolean isDue = house.mustMeet[team] && house.lastMember[team] == person;
            return !isDue || plan.commonDays(sets, team) != 0;
        }

        void takeFound() {
            System.arraycopy(sets, 0, plan.sets, 0, plan.house.people.count);
        }

        int fewestDesks() {
            for (int desks = 0; desks <= MOST_DESKS; desks++) {
                int found = search(desks);
                if (found == FOUND) {
                    return desks;
                }
                if (found == GIVEN_UP) {
                    return GIVEN_UP;
                }
                // With a desk for everybody more desks change nothing, nor what is looked at.
                if (desks >= plan.house.people.count) {
                    return NONE;
                }
            }
            return NONE;
        }

        /** How many changes were done, each to the better, of so many looked at. */
        int improve(int tries) {
            People people = plan.house.people;
            int worthNow = plan.total();
            int done = 0;
            int tried = 0;
            int person = 0;
            int k = 0;
            for (int step = 0; step < STEP_LIMIT && person < people.count && tried < tries; step++) {
                if (k >= people.suitingCount[person]) {
                    person++;
                    k = 0;
                    continue;
                }
                int kept = plan.sets[person];
                int set = people.suiting[person * SUITING_LIMIT + k];
                k++;
                if (set == kept) {
                    continue;
                }
                tried++;
                plan.sets[person] = set;
                int changed = plan.holds() ? plan.total() : NOTHING;
                if (changed > worthNow) {
                    worthNow = changed;
                    done++;
                    person = 0;
                    k = 0;
                } else {
                    plan.sets[person] = kept;
                }
            }
            return done;
        }

        int bestOfTwo(int first, int second) {
            People people = plan.house.people;
            int bestFirst = plan.sets[first];
            int bestSecond = plan.sets[second];
            int best = NOTHING;
            for (int k = 0; k < people.suitingCount[first]; k++) {
                plan.sets[first] = people.suiting[first * SUITING_LIMIT + k];
                for (int m = 0; m < people.suitingCount[second]; m++) {
                    plan.sets[second] = people.suiting[second * SUITING_LIMIT + m];
                    int sum = plan.holds() ? plan.total() : NOTHING;
                    if (sum > best) {
                        best = sum;
                        bestFirst = plan.sets[first];
                        bestSecond = plan.sets[second];
                    }
                }
            }
            plan.sets[first] = bestFirst;
            plan.sets[second] = bestSecond;
            return best;
        }

        int gainOfTrade(int first, int second) {
            int before = plan.total();
            exchange(first, second);
            int gain = plan.holds() ? plan.total() - before : NOTHING;
            exchange(first, second);
            return gain;
        }

        private void exchange(int first, int second) {
            int kept = plan.sets[first];
            plan.sets[first] = plan.sets[second];
            plan.sets[second] = kept;
        }

        int otherSets(int person) {
            People people = plan.house.people;
            int kept = plan.sets[person];
            int count = 0;
            for (int k = 0; k < people.suitingCount[person]; k++) {
                int set = people.suiting[person * SUITING_LIMIT + k];
                plan.sets[person] = set;
                if (set != kept && plan.holds()) {
                    count++;
                }
            }
            plan.sets[person] = kept;
            return count;
        }
    }

    // ---- how many come

    private static final class Chances {
        static final int DESK_LIMIT = 30;
        static final int BOOKING_LIMIT = 40;
        /** A hundredth of certainty. */
        static final long HUNDREDTH = 10000000000L;
        private static final long CERTAIN = 1000000000000L;
        private static final long MILLION = 1000000L;

        /** How likely it is that just so many come. */
        private final long[] likelihood = new long[BOOKING_LIMIT + 1];
        private int comers = 0;

        private void begin() {
            Arrays.fill(likelihood, 0L);
            likelihood[0] = CERTAIN;
            comers = 0;
        }

        private void admit(int comes) {
            if (comers >= BOOKING_LIMIT) {
                return;
            }
            comers++;
            for (int j = comers; j >= 1; j--) {
                likelihood[j] = (likelihood[j] * (100 - comes) + likelihood[j - 1] * comes) / 100;
            }
            likelihood[0] = likelihood[0] * (100 - comes) / 100;
        }

        void gather(Plan plan, int day) {
            House house = plan.house;
            begin();
            for (int person = 0; person < house.people.count; person++) {
                if (plan.isIn(person, day)) {
                    admit(house.people.comes[person]);
                }
            }
            for (int visitor = 0; visitor < house.visitors[day]; visitor++) {
                admit(house.visitComes[day]);
            }
        }

        long above(int n) {
            long sum = 0;
            for (int j = Math.max(0, n + 1); j <= comers; j++) {
                sum += likelihood[j];
            }
            return sum;
        }

        /** How many more than n come on the mean, in millionths. */
        long meanAbove(int n) {
            long sum = 0;
            for (int j = Math.max(0, n + 1); j <= comers; j++) {
                sum += (j - n) * likelihood[j];
            }
            return sum / MILLION;
        }

        int mostBookings(int comes, int n, int part) {
            int most = 0;
            begin();
            for (int people = 1; people <= BOOKING_LIMIT; people++) {
                admit(comes);
                if (above(n) <= part * HUNDREDTH) {
                    most = people;
                }
            }
            return most;
        }
    }

    // ---- who sits where

    private static final class Seats {
        private static final int EXCHANGE_LIMIT = 50;

        private final Plan plan;
        /** The floor of each person; NONE for those who sit nowhere. */
        final int[] place = new int[PERSON_LIMIT];
        private final int[] freeDesks = new int[FLOOR_LIMIT];

        Seats(Plan newPlan) {
            plan = newPlan;
        }

        void settle(int day) {
            House house = plan.house;
            for (int floor = 0; floor < house.floors.count; floor++) {
                freeDesks[floor] = house.floors.desks[floor] - house.floors.owned[floor];
            }
            for (int person = 0; person < house.people.count; person++) {
                place[person] = plan.isIn(person, day) ? house.people.own[person] : NONE;
            }
            for (int person = 0; person < house.people.count; person++) {
                if (plan.isIn(person, day) && house.people.own[person] == NONE) {
                    settleBest(person);
                }
            }
        }

        private void settleBest(int person) {
            int best = NONE;
            int most = 0;
            for (int floor = 0; floor < plan.house.floors.count; floor++) {
                if (freeDesks[floor] > 0) {
                    int pull = tiesThere(person, floor) - plan.house.floors.noise[floor];
                    if (best == NONE || pull > most) {
                        best = floor;
                        most = pull;
                    }
                }
            }
            if (best != NONE) {
                freeDesks[best]--;
                place[person] = best;
            }
        }

        private int tiesThere(int person, int floor) {
            House house = plan.house;
            int sum = 0;
            for (int tie = 0; tie < house.ties; tie++) {
                int first = house.tieFirst[tie];
                int second = house.tieSecond[tie];
                boolean isThere = (first == person && place[second] == floor)
                        || (second == person && place[first] == floor);
                sum += isThere ? house.tieNumber[tie] : 0;
            }
            return sum;
        }

        int fitNow() {
            House house = plan.house;
            int sum = 0;
            for (int tie = 0; tie < house.ties; tie++) {
                int floor = place[house.tieFirst[tie]];
                if (floor != NONE && floor == place[house.tieSecond[tie]]) {
                    sum += house.tieNumber[tie];
                }
            }
            for (int person = 0; person < house.people.count; person++) {
                if (place[person] != NONE) {
                    sum -= house.floors.noise[place[person]];
                }
            }
            return sum;
        }

        /** How many exchanges there were. */
        int exchangeAll() {
            for (int done = 0; done < EXCHANGE_LIMIT; done++) {
                if (!exchangeFirst()) {
                    return done;
                }
            }
            return EXCHANGE_LIMIT;
        }

        private boolean exchangeFirst() {
            int before = fitNow();
            for (int first = 0; first < plan.house.people.count; first++) {
                for (int second = first + 1; second < plan.house.people.count; second++) {
                    if (isMovable(first) && isMovable(second) && place[first] != place[second]) {
                        exchange(first, second);
                        if (fitNow() > before) {
                            return true;
                        }
                        exchange(first, second);
                    }
                }
            }
            return false;
        }

        private boolean isMovable(int person) {
            return place[person] != NONE && plan.house.people.own[person] == NONE;
        }

        private void exchange(int first, int second) {
            int kept = place[first];
            place[first] = place[second];
            place[second] = kept;
        }

        int dearestToShut(int day) {
            House house = plan.house;
            int shared = house.floors.allDesks - house.floors.allOwned;
            int needed = plan.inWithoutOwn(day);
            int dearest = NONE;
            for (int floor = 0; floor < house.floors.count; floor++) {
                int left = shared - (house.floors.desks[floor] - house.floors.owned[floor]);
                if (left >= needed && !isOwnerIn(floor, day)
                        && (dearest == NONE || house.floors.cost[floor] > house.floors.cost[dearest])) {
                    dearest = floor;
                }
            }
            return dearest;
        }

        private boolean isOwnerIn(int floor, int day) {
            House house = plan.house;
            for (int person = 0; person < house.people.count; person++) {
                if (house.people.own[person] == floor && plan.isIn(person, day)) {
                    return true;
                }
            }
            return false;
        }
    }
}
