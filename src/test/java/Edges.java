import java.util.ArrayList;
import java.util.Arrays;
import java.util.List;
import java.util.TreeSet;
import java.util.function.Consumer;
import java.util.function.Supplier;

/**
 * What the boundary tests share. A test stands under a place of the document ("promise 2") and its words, has a name, makes its
 * own objects and is counted alone; one that throws has failed.
 */
final class Edges {
    static final int NOTHING = -1000000000;
    static final int LEAST = Integer.MIN_VALUE;
    static final int MOST = Integer.MAX_VALUE;
    static final String[] WEEK = {"mon", "tue", "wed", "thu", "fri"};
    /** Refusals by the numbers of status(). */
    static final int OF_TAPE = 0, OF_HOUSE = 1, OF_SET = 2, OF_CHANGE = 3, OF_SEED = 4, OF_IMAGE = 5, OF_NONE = -1;

    private static String where = "";
    private static String words = "";
    private static int tests = 0;
    private static int failed = 0;
    private static boolean isWrong = false;
    private static String name = "";
    static final TreeSet<String> PLACES = new TreeSet<>();
    static final List<String> QUOTED = new ArrayList<>();

    private Edges() {
    }

    // ---- tests

    static void of(String place) {
        where = place;
        words = "";
    }
    /** The document's own words, on which the next tests rest. */
    static void says(String quoted) {
        words = quoted;
        QUOTED.add(quoted);
    }
    static void test(String newName, Runnable body) {
        name = newName;
        isWrong = false;
        tests++;
        PLACES.add(where);
        try {
            body.run();
        } catch (RuntimeException | StackOverflowError thrown) {
            miss("throws " + thrown);
        }
        if (isWrong) failed++;
    }
    private static void miss(String text) {
        isWrong = true;
        System.out.println(where + " (" + words + "), " + name + ": " + text);
    }
    static void is(String call, long got, long want) {
        if (got != want) miss(call + " answered " + got + ", due is " + want);
    }
    static void is(String call, boolean got, boolean want) {
        if (got != want) miss(call + " answered " + got + ", due is " + want);
    }
    static void is(String call, String got, String want) {
        if (!got.equals(want)) miss(call + ":\n  is  " + got + "\n  due " + want);
    }
    static int testCount() { return tests; }
    static int failedCount() { return failed; }

    // ---- the tape and houses

    /** Puts these bytes alone on the tape. */
    static void tape(DeskDays x, String bytes) {
        x.end(0);
        StringBuilder all = new StringBuilder(bytes);
        while (all.length() % 20 != 0) all.append((char) 255);
        for (int at = 0; at < all.length(); at += 20) {
            int[] n = new int[5];
            for (int k = 0; k < 20; k++) n[k / 4] = (n[k / 4] << 8) | all.charAt(at + k);
            x.feed(n[0], n[1], n[2], n[3], n[4]);
        }
        x.end(bytes.length());
    }
    static int tell(DeskDays x, String text) {
        tape(x, text);
        return x.house();
    }
    static DeskDays told(String text) {
        DeskDays x = new DeskDays();
        if (tell(x, text) < 0) miss("house() of " + text + " has fault " + x.fault(0) + " at " + x.fault(1));
        return x;
    }
    static DeskDays planned(String text, int... sets) {
        DeskDays x = told(text);
        for (int p = 0; p < sets.length; p++) x.put(p, sets[p]);
        return x;
    }
    static String bytes(int... all) {
        StringBuilder s = new StringBuilder();
        for (int b : all) s.append((char) b);
        return s.toString();
    }
    /** The house is taken, with so many statements. */
    static void taken(String text, int statements) {
        DeskDays x = new DeskDays();
        is("house() of " + text, tell(x, text), statements);
        is("fault(0)", x.fault(0), 0);
        is("fault(1)", x.fault(1), -1);
    }
    /** The house has this fault where the mark stands in the text. */
    static void fault(int kind, String marked) {
        int place = marked.indexOf('^');
        String text = marked.substring(0, place) + marked.substring(place + 1);
        DeskDays x = new DeskDays();
        is("house() of " + text, tell(x, text), -1);
        is("fault(0) of " + text, x.fault(0), kind);
        is("fault(1) of " + text, x.fault(1), place);
    }
    /** Persons pa, pb, .. of team t with so many days each, behind a floor f of so many desks. */
    static String crowd(int desks, int... days) {
        StringBuilder s = new StringBuilder("floor f desks " + desks + " noise 0 cost 0;team t;");
        for (int p = 0; p < days.length; p++) s.append("person p").append((char) ('a' + p)).append(" team t days ").append(days[p]).append(';');
        return s.toString();
    }
    static int[] alike(int n, int each) {
        int[] all = new int[n];
        Arrays.fill(all, each);
        return all;
    }
    static void sets(DeskDays x, int... want) {
        for (int p = 0; p < want.length; p++) is("set of person " + p, x.person(p, 6), want[p]);
    }

    // ---- what a call may not change

    /** A house with all kinds of statements, a plan that holds, a seed, an image, and "team zz;" on the tape. */
    static DeskDays used() {
        DeskDays x = planned("floor up desks 2 noise 3 cost 50;floor low desks 2 noise 1 cost 70;team red;team blue;"
            + "person ann team red days 2;person bob team red days 1;person cy team blue days 3;person dee team blue days 2;"
            + "cannot ann fri;cannot bob tue;likes ann mon 5;tie ann bob 10;tie bob cy 7;tie cy dee 3;comes bob 50;visit tue 2 50;"
            + "visit wed 3 30;visit fri 9 50;own dee low;meet blue;turns bob 1;turns cy 4;stand 20;worth many*3 when day=4;", 3, 1, 21, 17);
        x.image();
        x.put(0, 10);
        x.fewest();
        tell(x, "team t;team t;");
        x.seed(99);
        tape(x, "team zz;");
        return x;
    }
    static int[] refusals(DeskDays x) {
        int[] all = new int[6];
        for (int what = 0; what < 6; what++) all[what] = x.status(what);
        return all;
    }
    /** All that can be asked but for refusals; the seed and the tape come last, as asking takes them. */
    static String state(DeskDays x) {
        StringBuilder s = new StringBuilder();
        for (int what = 0; what <= 8; what++) s.append(x.has(what)).append(' ');
        for (int f = 0; f < x.has(0); f++) for (int what = 0; what < 4; what++) s.append(x.floor(f, what)).append(what == 3 ? ';' : ',');
        for (int p = 0; p < x.has(2); p++) for (int what = 0; what < 8; what++) s.append(x.person(p, what)).append(what == 7 ? ';' : ',');
        for (int d = 0; d < 5; d++) s.append(x.day(d, 0)).append(',').append(x.day(d, 1)).append(',').append(x.day(d, 2)).append(';');
        for (int kind = 0; kind < 3; kind++) for (int k = 0; k < 2; k++) s.append(x.letter(kind, k, 0)).append(' ');
        s.append(" fault ").append(x.fault(0)).append(' ').append(x.fault(1)).append(" spent ").append(x.spent()).append(" image");
        for (int k = 0; k < 15; k++) s.append(' ').append(x.octet(k));
        s.append(" judge ").append(x.judge(0)).append(' ').append(x.judge(1)).append(" worth ").append(x.worth()).append(' ').append(x.bound(true));
        for (int p = 0; p < x.has(2); p++) s.append(" alone ").append(x.alone(p)).append(" move ").append(x.move(p));
        for (int d = 0; d < 5; d++) s.append(" fit ").append(x.fit(d, 1)).append(" stairs ").append(x.stairs(d));
        s.append(" weeks ").append(x.weeks()).append(" draw");
        for (int d = 0; d < 5; d++) s.append(' ').append(x.draw(d));
        x.end(Math.min(1780, tapeSize(x)));
        s.append(" house ").append(x.house()).append(' ').append(x.fault(0)).append(' ').append(x.fault(1)).append(' ').append(x.letter(1, 0, 0));
        return s.toString();
    }
    /** How many bytes the tape had; it has twenty more then, if it has room. */
    private static int tapeSize(DeskDays x) {
        int size = x.feed(0, 0, 0, 0, 0);
        return size < 0 ? 1800 : size - 20;
    }
    /** The call changes nothing but the count of refusals of this kind, by one (OF_NONE: not that either). */
    static void leaves(int refusal, Supplier<DeskDays> made, Consumer<DeskDays> call) {
        DeskDays with = made.get();
        DeskDays without = made.get();
        call.accept(with);
        int[] due = refusals(without);
        if (refusal != OF_NONE) due[refusal]++;
        int[] got = refusals(with);
        for (int what = 0; what < 6; what++) is("status(" + what + ")", got[what], due[what]);
        is("all else", state(with), state(without));
    }
    static void leaves(int refusal, Consumer<DeskDays> call) {
        leaves(refusal, Edges::used, call);
    }
}
