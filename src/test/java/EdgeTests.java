import java.io.IOException;
import java.lang.reflect.InvocationTargetException;
import java.lang.reflect.Method;
import java.lang.reflect.Modifier;
import java.nio.file.Files;
import java.nio.file.Path;
import java.util.LinkedHashMap;
import java.util.List;
import java.util.Map;
import java.util.Set;
import java.util.TreeSet;

/**
 * A walk through the document: every sentence that names a boundary case (too small, too large, empty, full, a
 * wrap-around, a refused call) has a test of its own, which names the promise that it belongs to.
 *
 * <p>The words are quoted in their order, a clause at a time where a sentence names several cases. At the end they
 * are laid beside ../shared/DOC.md, so that no words of it are left out and none are quoted that it does not say.
 */
public final class EdgeTests {
    private static final Path DOCUMENT = Path.of("../shared/DOC.md");
    private static final int PROMISES = 21, NO_PROMISE = 0;

    private static final int NONE = CandidateRanges.NONE, BAD = CandidateRanges.BAD;
    private static final int FULL = CandidateRanges.FULL, LARGE = CandidateRanges.LARGE;
    private static final int BY_NULL = -11, BY_INDEX = -12, BY_SIZE = -13, BY_STORE = -14;
    private static final int BY_CAST = -15, BY_DIVIDE = -16, BY_OWN = -17, WILD = -18;

    private static final int NOTHING = 0, LONGS = 1, INTS = 2, A_POINT = 3;
    private static final int EMPTY = 0, A_STONE = 1, A_GEM = 2, A_SHELL = 3;
    private static final int BELOW = 0, RESTS = 1, SHARES = 2, ITEM = 3, ROOM = 4, BOX = 5, OWN = 6;
    private static final int NOT = 7, BOTH = 8, EITHER = 9, ELSE = 10, COUNTED = 11, POINT = 12;
    private static final int JOIN = 2, MEET = 3, LESS = 4, TURNED = 5, NEAR = 6, PASS = 7, EVERY = 8, SHELF = 9;

    /** Stands where an argument is not looked at: as a number of anything it would be refused. */
    private static final int JUNK = -9;
    private static final long MIN = Long.MIN_VALUE, MAX = Long.MAX_VALUE;
    private static final int LEAST = Integer.MIN_VALUE, MOST = Integer.MAX_VALUE;
    /** Cut off to an int it is 0. */
    private static final long NO_INT = 1L << 32;

    private static final Map<String, StringBuilder> QUOTED = new LinkedHashMap<>();
    private static final Set<Integer> NAMED = new TreeSet<>();
    private static String section = "";
    private static String words = "";
    private static String test = "";
    private static int promise = NO_PROMISE;
    private static int checksOfTest = 0;
    private static int checks = 0;
    private static int tests = 0;
    private static int wrong = 0;

    /** A test is given a new object. */
    private interface Test {
        void of(CandidateRanges x);
    }

    private interface Call {
        long on(CandidateRanges x);
    }

    // The walk: sections, and the words in them.

    private static void section(String heading) {
        section = heading;
        QUOTED.put(heading, new StringBuilder());
    }

    private static void edge(int ofPromise, String theWords, Test body) {
        none(theWords);
        run(ofPromise, theWords, body);
    }

    /** A further test of the words that came last. */
    private static void also(int ofPromise, String what, Test body) {
        run(ofPromise, words + " [" + what + "]", body);
    }

    /** Words that name no boundary case. */
    private static void none(String theWords) {
        words = theWords;
        QUOTED.get(section).append(theWords).append(' ');
    }

    private static void run(int ofPromise, String name, Test body) {
        promise = ofPromise;
        test = name;
        NAMED.add(ofPromise);
        checksOfTest = 0;
        tests++;
        try {
            body.of(new CandidateRanges());
        } catch (RuntimeException e) {
            fault(name, "threw " + e);
        }
        if (checksOfTest == 0) {
            fault(name, "checked nothing");
        }
        checks += checksOfTest;
    }

    private static void fault(String where, String what) {
        wrong++;
        String whose = promise == NO_PROMISE ? "" : "promise " + promise + ", ";
        System.out.println(whose + section + ", '" + where + "': " + what);
    }

    // What is due.

    private static void due(long want, long got) {
        checksOfTest++;
        if (got != want) {
            fault(test, "check " + checksOfTest + " answered " + got + ", due is " + want);
        }
    }

    private static void due(boolean right) {
        due(1, right ? 1 : 0);
    }

    /** The exception is the one that the document names, none of those that the machine throws in its stead. */
    private static void dueThrow(CandidateRanges x, Call call) {
        due(answerOf(x, call).equals("java.lang.IndexOutOfBoundsException"));
    }

    private static String answerOf(CandidateRanges x, Call call) {
        try {
            return Long.toString(call.on(x));
        } catch (RuntimeException e) {
            return e.getClass().getName();
        }
    }

    private static void dueRange(CandidateRanges x, int s, long... want) {
        due(1, x.range(s));
        dueNumbers(x, want);
    }

    private static void dueNumbers(CandidateRanges x, long... want) {
        long size = x.size();
        due(want.length, size);
        for (int k = 0; k < want.length && k < size; k++) {
            due(want[k], x.at(k));
            due(k, x.place(want[k]));
        }
        dueThrow(x, y -> y.at(want.length));
        dueThrow(x, y -> y.at(-1));
    }

    private static void dueBarred(CandidateRanges x, int i, long number, int failure, int filter) {
        due(i < x.barred());
        due(failure, x.bar(i, 0));
        due(filter, x.bar(i, 1));
        due(number, i < x.barred() ? x.barredAt(i) : ~number);
    }

    // Things to test with.

    private static int below(CandidateRanges x, long v) {
        return x.filter(BELOW, JUNK, JUNK, v);
    }

    private static int rests(CandidateRanges x, int a, long v) {
        return x.filter(RESTS, a, JUNK, v);
    }

    private static int shares(CandidateRanges x, int a, long v) {
        return x.filter(SHARES, a, JUNK, v);
    }

    private static int itemAbove(CandidateRanges x, int shelf, long v) {
        return x.filter(ITEM, shelf, JUNK, v);
    }

    private static int room(CandidateRanges x, long v) {
        return x.filter(ROOM, JUNK, JUNK, v);
    }

    private static int intoBox(CandidateRanges x, int box, long v) {
        return x.filter(BOX, box, JUNK, v);
    }

    private static int own(CandidateRanges x, long v) {
        return x.filter(OWN, JUNK, JUNK, v);
    }

    private static int not(CandidateRanges x, int a) {
        return x.filter(NOT, a, JUNK, JUNK);
    }

    private static int both(CandidateRanges x, int a, int b) {
        return x.filter(BOTH, a, b, JUNK);
    }

    private static int either(CandidateRanges x, int a, int b) {
        return x.filter(EITHER, a, b, JUNK);
    }

    private static int orElse(CandidateRanges x, int a, int b) {
        return x.filter(ELSE, a, b, JUNK);
    }

    private static int counted(CandidateRanges x, int a) {
        return x.filter(COUNTED, a, JUNK, JUNK);
    }

    private static int abovePoint(CandidateRanges x, int shelf) {
        return x.filter(POINT, shelf, JUNK, JUNK);
    }

    /** Every number passes, but one that no test asks of. */
    private static int passes(CandidateRanges x) {
        return own(x, -777_777);
    }

    /** No number passes. */
    private static int stops(CandidateRanges x) {
        return below(x, MIN);
    }

    /** Every number fails, by DIVIDE. */
    private static int fails(CandidateRanges x) {
        return rests(x, 0, 0);
    }

    private static int listOf(CandidateRanges x, long... numbers) {
        int s = x.list();
        for (long number : numbers) {
            x.add(s, number);
        }
        return s;
    }

    private static int join(CandidateRanges x, int s, int t) {
        return x.source(JOIN, s, t, JUNK, JUNK, JUNK);
    }

    private static int meet(CandidateRanges x, int s, int t) {
        return x.source(MEET, s, t, JUNK, JUNK, JUNK);
    }

    private static int less(CandidateRanges x, int s, int t) {
        return x.source(LESS, s, t, JUNK, JUNK, JUNK);
    }

    private static int turned(CandidateRanges x, int s) {
        return x.source(TURNED, s, JUNK, JUNK, JUNK, JUNK);
    }

    private static int near(CandidateRanges x, int s, int n, long v) {
        return x.source(NEAR, s, JUNK, JUNK, n, v);
    }

    private static int pass(CandidateRanges x, int s, int filter) {
        return x.source(PASS, s, JUNK, filter, JUNK, JUNK);
    }

    private static int every(CandidateRanges x, int s, int n) {
        return x.source(EVERY, s, JUNK, JUNK, n, JUNK);
    }

    private static int itemsOf(CandidateRanges x, int shelf) {
        return x.source(SHELF, JUNK, JUNK, shelf, JUNK, JUNK);
    }

    private static int upTo(CandidateRanges x, long high) {
        return x.span(1, high, 1);
    }

    /** A SOURCE whose range() has so many FAILURES, if there are not too many before. */
    private static int failing(CandidateRanges x, int failures) {
        return pass(x, upTo(x, failures), fails(x));
    }

    /** A FILTER that fails 16 times when it is asked of 3, and lies five deep. */
    private static int sixteenFailures(CandidateRanges x) {
        int f = own(x, 3);
        for (int level = 2; level <= 5; level++) {
            f = orElse(x, f, f);
        }
        return f;
    }

    private static int notsOver(CandidateRanges x, int f, int levels) {
        for (int level = 0; level < levels; level++) {
            f = not(x, f);
        }
        return f;
    }

    private static int turnedOften(CandidateRanges x, int s, int levels) {
        for (int level = 0; level < levels; level++) {
            s = turned(x, s);
        }
        return s;
    }

    private static void fillFilters(CandidateRanges x) {
        for (int f = x.told(0); f < 20; f++) {
            below(x, f);
        }
    }

    private static void fillSources(CandidateRanges x) {
        for (int s = x.told(1); s < 20; s++) {
            x.span(s, s, 1);
        }
    }

    /** Something of most kinds, and a RANGE for which four were BARRED. */
    private static void furnish(CandidateRanges x) {
        x.shelf(0, LONGS, 3);
        x.item(0, 0, 7);
        x.item(0, 1, -7);
        x.shelf(1, INTS, 2);
        x.item(1, 1, 9);
        x.shelf(2, A_POINT, 4);
        int low = below(x, 6);
        int count = counted(x, shares(x, 0, 12));
        orElse(x, count, low);
        x.ask(intoBox(x, 2, 1), 4);
        int item = itemAbove(x, 0, 0);
        int numbers = x.span(-3, 3, 1);
        int list = listOf(x, 5, 5, -1);
        join(x, numbers, list);
        itemsOf(x, 0);
        x.range(pass(x, numbers, count));
        x.range(pass(x, numbers, item));
    }

    private static void furnishAndFill(CandidateRanges x) {
        furnish(x);
        fillFilters(x);
        fillSources(x);
    }

    // Whether two objects answer alike.

    /** Refused, the call leaves the object as it would be without that call. */
    private static void dueUnchanged(long want, Test before, Call refused) {
        CandidateRanges x = new CandidateRanges(), twin = new CandidateRanges();
        before.of(x);
        before.of(twin);
        due(want, refused.on(x));
        dueSameRecords(x, twin);
        dueSameRest(x, twin);
    }

    /** As above, but for what LARGE and FAILED calls leave behind. */
    private static void dueUnchangedButRecords(long want, Test before, Call refused) {
        CandidateRanges x = new CandidateRanges(), twin = new CandidateRanges();
        before.of(x);
        before.of(twin);
        due(want, refused.on(x));
        dueSameRest(x, twin);
    }

    private static void dueSame(CandidateRanges x, CandidateRanges twin, Call call) {
        String want = answerOf(twin, call), got = answerOf(x, call);
        checksOfTest++;
        if (!got.equals(want)) {
            fault(test, "check " + checksOfTest + ": one object answers " + got + ", its twin " + want);
        }
    }

    private static void dueSameRecords(CandidateRanges x, CandidateRanges twin) {
        dueSame(x, twin, y -> y.told(2));
        dueSame(x, twin, y -> y.barred());
        for (int k = 0; k < 20; k++) {
            int i = k;
            dueSame(x, twin, y -> y.asked(i));
            dueSame(x, twin, y -> y.box(i / 3, i % 3));
            if (i < 5) {
                dueSame(x, twin, y -> y.bar(i, 0));
                dueSame(x, twin, y -> y.bar(i, 1));
                dueSame(x, twin, y -> y.barredAt(i));
            }
        }
    }

    private static void dueSameRest(CandidateRanges x, CandidateRanges twin) {
        dueSame(x, twin, y -> y.told(0));
        dueSame(x, twin, y -> y.told(1));
        dueSameRange(x, twin);
        int sources = twin.told(1), filters = twin.told(0);
        for (int s = 0; s < sources; s++) {
            int number = s;
            dueSame(x, twin, y -> y.range(number));
            dueSameRange(x, twin);
            dueSame(x, twin, y -> y.add(number, 8));
        }
        for (int f = 0; f < filters; f++) {
            int number = f;
            dueSame(x, twin, y -> y.ask(number, 2));
            dueSame(x, twin, y -> y.ask(number, -1));
        }
        for (int k = 0; k < 6; k++) {
            int shelf = k;
            dueSame(x, twin, y -> y.item(shelf, 1, 3));
        }
        dueSame(x, twin, y -> join(y, 0, 1));
        dueSame(x, twin, y -> not(y, 0));
    }

    private static void dueSameRange(CandidateRanges x, CandidateRanges twin) {
        dueSame(x, twin, y -> y.told(3));
        dueSame(x, twin, y -> y.size());
        dueSame(x, twin, y -> y.at(0));
        dueSame(x, twin, y -> y.at(1));
        dueSame(x, twin, y -> y.draw(-1));
    }

    // The document, section by section.

    private static void whatItIs() {
        section("What it is");
        none("Where candidates come from:");
        edge(8, "spans of whole numbers that never run over,", x -> {
            int s = x.span(MAX - 5, MAX, 4);
            dueRange(x, s, MAX - 5, MAX - 1);
            dueRange(x, turned(x, s), MAX - 1, MAX - 5);
            dueRange(x, every(x, s, 200), MAX - 5);
            dueRange(x, join(x, s, s), MAX - 5, MAX - 1);
            dueRange(x, x.span(MIN, MAX, MAX), MIN, -1, MAX - 1);
            dueRange(x, x.span(MAX - 1, MAX, 1), MAX - 1, MAX);
        });
        edge(10, "lists,", x -> {
            int s = x.list();
            dueRange(x, s);
            x.add(s, MIN);
            dueRange(x, s, MIN);
        });
        edge(12, "shelves as they are now,", x -> {
            x.shelf(5, LONGS, 2);
            int s = itemsOf(x, 5);
            dueRange(x, s, 0);
            x.item(5, 1, 7);
            dueNumbers(x, 0);
            dueRange(x, s, 0, 7);
            x.shelf(5, LONGS, 0);
            dueRange(x, s);
        });
        edge(12, "joined,", x -> {
            int none = x.list(), one = listOf(x, 4);
            dueRange(x, join(x, none, none));
            dueRange(x, join(x, none, one), 4);
            dueRange(x, join(x, one, none), 4);
        });
        edge(12, "met,", x -> {
            int none = x.list(), one = listOf(x, 4);
            dueRange(x, meet(x, none, one));
            dueRange(x, meet(x, one, none));
            dueRange(x, meet(x, one, one), 4);
        });
        edge(12, "turned,", x -> {
            dueRange(x, turned(x, x.list()));
            dueRange(x, turned(x, x.span(2, 1, 1)));
            dueRange(x, turned(x, listOf(x, 4)), 4);
        });
        edge(12, "the nearest ones,", x -> {
            dueRange(x, near(x, x.list(), 200, 0));
            dueRange(x, near(x, listOf(x, 4, 6), 1, 6), 6);
        });
        edge(12, "those that filters let pass;", x -> {
            int s = upTo(x, 3);
            dueRange(x, pass(x, s, stops(x)));
            dueRange(x, pass(x, s, passes(x)), 1, 2, 3);
            dueRange(x, pass(x, x.list(), passes(x)));
        });
        none("filters are things of kinds, some made of others,");
        edge(6, "that ask and may fail as the machine does:", x -> {
            x.shelf(1, LONGS, 0);
            x.shelf(2, A_POINT, 0);
            due(BY_NULL, x.ask(itemAbove(x, 0, 0), 0));
            due(BY_INDEX, x.ask(itemAbove(x, 1, 0), 0));
            due(BY_SIZE, x.ask(room(x, 0), -1));
            due(BY_STORE, x.ask(intoBox(x, 0, 0), 1));
            due(BY_CAST, x.ask(itemAbove(x, 2, 0), 0));
            due(BY_DIVIDE, x.ask(shares(x, 0, 1), 0));
            due(BY_OWN, x.ask(own(x, 5), 5));
        });
        edge(17, "who fails is barred and told;", x -> {
            int f = shares(x, 0, 1);
            dueRange(x, pass(x, x.span(-1, 1, 1), f), 1);
            due(1, x.barred());
            dueBarred(x, 0, 0, 6, f);
            due(1, x.told(2));
        });
        edge(12, "ranges reckoned exactly,", x -> {
            dueRange(x, near(x, listOf(x, MIN, MAX, 0), 3, MAX), MAX, 0, MIN);
            dueRange(x, meet(x, listOf(x, NO_INT, 0, MIN), listOf(x, MIN, 0)), 0, MIN);
        });
        edge(12, "each candidate once,", x -> {
            dueRange(x, listOf(x, 3, 3, 3), 3);
            dueRange(x, join(x, upTo(x, 100), upTo(x, 100)), numbersUpTo(100));
        });
        edge(12, "in order;", x -> {
            dueRange(x, listOf(x, 3, MIN, 3, 1, MAX), 3, MIN, 1, MAX);
        });
        edge(16, "even draws.", x -> {
            dueRange(x, upTo(x, 3), 1, 2, 3);
            for (int n = 0; n < 9; n++) {
                due(n % 3 + 1, x.draw(n));
            }
        });
        edge(1, "An object is used for at most 512 calls after it has been made;", x -> {
            int count = counted(x, below(x, 5)), s = pass(x, upTo(x, 9), count);
            for (int call = 5; call <= 510; call++) {
                x.ask(count, call);
            }
            due(1, x.range(s));
            due(506 + 9, x.asked(count));
        });
        edge(1, "what later calls answer is free.", x -> {
            furnishAndFill(x);
            for (Method method : faceMethods()) {
                dueNoOtherThrow(method, x);
            }
        });
    }

    private static long[] numbersUpTo(int high) {
        long[] numbers = new long[high];
        for (int i = 0; i < high; i++) {
            numbers[i] = i + 1;
        }
        return numbers;
    }

    private static void thePublicFace() {
        section("The public face");
        edge(1, "public final class CandidateRanges {", x -> {
            due(Modifier.isPublic(CandidateRanges.class.getModifiers()));
            due(Modifier.isFinal(CandidateRanges.class.getModifiers()));
        });
        edge(1, "public static final int NONE = -1, BAD = -2, FULL = -3, LARGE = -4;", x -> {
            due(-1, CandidateRanges.NONE);
            due(-2, CandidateRanges.BAD);
            due(-3, CandidateRanges.FULL);
            due(-4, CandidateRanges.LARGE);
        });
        edge(1, "public CandidateRanges();", x -> {
            furnishAndFill(x);
            CandidateRanges other = new CandidateRanges();
            due(0, other.told(0));
            due(0, other.told(1));
            due(0, other.size());
            due(0, other.barred());
            due(EMPTY, other.box(2, 1));
            due(BY_NULL, other.item(0, 0, 0));
            due(1, x.item(0, 0, 5));
            due(20, x.told(0));
            due(A_SHELL, x.box(2, 1));
            dueNumbers(x, 0);
        });
        faceLine(2, "public int shelf(int k, int kind, int n);", "shelf");
        faceLine(3, "public int item(int k, int i, long v);", "item");
        faceLine(4, "public int box(int k, int i);", "box");
        faceLine(5, "public int filter(int kind, int a, int b, long v);", "filter");
        faceLine(6, "public int ask(int f, long c);", "ask");
        faceLine(7, "public int asked(int f);", "asked");
        faceLine(8, "public int span(long low, long high, long step);", "span");
        faceLine(9, "public int list();", "list");
        faceLine(10, "public int add(int s, long v);", "add");
        faceLine(11, "public int source(int sort, int s, int t, int a, int n, long v);", "source");
        faceLine(12, "public int range(int s);", "range");
        faceLine(13, "public long size();", "size");
        faceLine(14, "public long at(long k) throws IndexOutOfBoundsException;", "at");
        faceLine(15, "public long place(long v);", "place");
        faceLine(16, "public long draw(long n) throws IndexOutOfBoundsException;", "draw");
        faceLine(17, "public int barred();", "barred");
        faceLine(18, "public int bar(int i, int what);", "bar");
        faceLine(19, "public long barredAt(int i) throws IndexOutOfBoundsException;", "barredAt");
        faceLine(20, "public long distance(long a, long b);", "distance");
        faceLine(21, "public int told(int what);", "told");
        none("}");
    }

    /** The least, the greatest and the middle arguments, in a new object, a furnished and a full one. */
    private static void faceLine(int ofPromise, String line, String name) {
        edge(ofPromise, line, x -> {
            for (Method method : faceMethods()) {
                if (method.getName().equals(name)) {
                    dueNoOtherThrow(method, y -> { });
                    dueNoOtherThrow(method, EdgeTests::furnish);
                    dueNoOtherThrow(method, EdgeTests::furnishAndFill);
                }
            }
        });
    }

    private static List<Method> faceMethods() {
        return List.of(CandidateRanges.class.getDeclaredMethods()).stream()
            .filter(method -> Modifier.isPublic(method.getModifiers())).toList();
    }

    private static void dueNoOtherThrow(Method method, Test before) {
        CandidateRanges x = null;
        for (int call = 0; call < argumentRows(method); call++) {
            if (call % 300 == 0) {
                x = new CandidateRanges();
                before.of(x);
            }
            dueNoOtherThrow(method, x, call);
        }
    }

    private static void dueNoOtherThrow(Method method, CandidateRanges x) {
        for (int call = 0; call < argumentRows(method); call++) {
            dueNoOtherThrow(method, x, call);
        }
    }

    private static void dueNoOtherThrow(Method method, CandidateRanges x, int call) {
        boolean mayThrow = method.getExceptionTypes().length > 0;
        Object[] arguments = arguments(method, call);
        checksOfTest++;
        try {
            method.invoke(x, arguments);
        } catch (InvocationTargetException e) {
            if (!mayThrow || e.getCause().getClass() != IndexOutOfBoundsException.class) {
                fault(test, method.getName() + List.of(arguments) + " threw " + e.getCause());
            }
        } catch (IllegalAccessException e) {
            fault(test, "cannot be called");
        }
    }

    private static final long[] EXTREMES = {MIN, -1, 0, 1, MAX};
    /** Kinds, sorts and numbers of things are told by the first argument. */
    private static final long[] FIRSTS = {MIN, -1, 0, 1, 2, 3, 4, 5, 6, 7, 8, 9, 10, 11, 12, 13, MAX};

    private static int argumentRows(Method method) {
        int rows = method.getParameterCount() == 0 ? 1 : FIRSTS.length;
        for (int i = 1; i < method.getParameterCount(); i++) {
            rows *= EXTREMES.length;
        }
        return rows;
    }

    private static Object[] arguments(Method method, int row) {
        Object[] arguments = new Object[method.getParameterCount()];
        for (int i = 0; i < arguments.length; i++) {
            long[] values = i == 0 ? FIRSTS : EXTREMES;
            long value = values[row % values.length];
            row /= values.length;
            if (method.getParameterTypes()[i] == int.class) {
                arguments[i] = (int) Math.max(LEAST, Math.min(MOST, value));
            } else {
                arguments[i] = value;
            }
        }
        return arguments;
    }

    private static void termsOfThings() {
        section("Terms");
        edge(10, "NUMBERS are whole, of 64 bits.", x -> {
            dueRange(x, listOf(x, MIN, MAX, NO_INT, NO_INT + 1), MIN, MAX, NO_INT, NO_INT + 1);
        });
        edge(2, "SHELVES 0 .. 5", x -> {
            for (int k = 0; k <= 5; k++) {
                due(1, x.shelf(k, LONGS, 1));
                due(1, x.item(k, 0, k));
            }
            for (int k = 0; k <= 5; k++) {
                dueRange(x, itemsOf(x, k), k);
            }
            due(NONE, x.shelf(-1, LONGS, 1));
            due(NONE, x.shelf(6, LONGS, 1));
        });
        edge(2, "hold nothing,", x -> {
            x.shelf(0, LONGS, 12);
            due(1, x.shelf(0, NOTHING, 0));
            due(BY_NULL, x.item(0, 0, 0));
            due(BY_NULL, x.range(itemsOf(x, 0)));
        });
        edge(2, "a ROW of longs or of ints (0 to 12 items,", x -> {
            for (int kind = LONGS; kind <= INTS; kind++) {
                due(BAD, x.shelf(0, kind, -1));
                due(1, x.shelf(0, kind, 0));
                due(BY_INDEX, x.item(0, 0, 0));
                due(1, x.shelf(0, kind, 12));
                due(1, x.item(0, 11, 0));
                due(BY_INDEX, x.item(0, 12, 0));
                due(BAD, x.shelf(0, kind, 13));
            }
        });
        edge(3, "numbered from 0),", x -> {
            x.shelf(0, LONGS, 3);
            due(1, x.item(0, 0, 5));
            due(1, x.item(0, 2, 6));
            due(BY_INDEX, x.item(0, 3, 7));
            due(BY_INDEX, x.item(0, -1, 7));
            dueRange(x, itemsOf(x, 0), 5, 0, 6);
        });
        edge(2, "or a POINT (a number).", x -> {
            int f = abovePoint(x, 0);
            for (int n : new int[] {LEAST, -1, 0, 13, MOST}) {
                due(1, x.shelf(0, A_POINT, n));
                due(0, x.ask(f, n));
                due(1, x.ask(f, n + 1L));
            }
        });
        edge(4, "BOXES 0 .. 2", x -> {
            for (int k = 0; k <= 2; k++) {
                x.ask(intoBox(x, k, k), 0);
            }
            for (int k = 0; k <= 2; k++) {
                for (int i = 0; i <= 2; i++) {
                    due(k == i ? A_GEM : EMPTY, x.box(k, i));
                }
            }
            due(NONE, x.box(-1, 0));
            due(NONE, x.box(3, 0));
        });
        edge(4, "are rows of three THINGS each:", x -> {
            for (int i = 0; i <= 2; i++) {
                x.ask(intoBox(x, 2, i), i);
            }
            due(A_GEM, x.box(2, 0));
            due(A_SHELL, x.box(2, 1));
            due(A_STONE, x.box(2, 2));
            due(NONE, x.box(2, 3));
            due(NONE, x.box(2, -1));
        });
        edge(6, "of STONES,", x -> dueTakes(x, 0, true, true, false));
        edge(6, "of GEMS,", x -> dueTakes(x, 1, false, true, false));
        edge(6, "of any", x -> dueTakes(x, 2, true, true, true));
        edge(6, "(a GEM is a STONE;", x -> {
            due(1, x.ask(intoBox(x, 0, 0), 3));
            due(A_GEM, x.box(0, 0));
        });
        edge(6, "there is a SHELL, too, which is no STONE).", x -> {
            due(BY_STORE, x.ask(intoBox(x, 0, 0), 1));
            due(EMPTY, x.box(0, 0));
            due(1, x.ask(intoBox(x, 2, 0), 1));
            due(A_SHELL, x.box(2, 0));
        });
    }

    private static void dueTakes(CandidateRanges x, int box, boolean stone, boolean gem, boolean shell) {
        int f = intoBox(x, box, 0);
        due(stone ? 1 : BY_STORE, x.ask(f, 2));
        due(stone ? A_STONE : EMPTY, x.box(box, 0));
        due(shell ? 1 : BY_STORE, x.ask(f, 1));
        due(gem ? 1 : BY_STORE, x.ask(f, 0));
        due(gem ? A_GEM : EMPTY, x.box(box, 0));
    }

    /** A FAILURE is told by its number: below -10 by ask(), as it is by bar(). */
    private static void dueFailure(CandidateRanges x, int number, int filter, long c) {
        due(-10 - number, x.ask(filter, c));
        due(1, x.range(pass(x, listOf(x, c), filter)));
        due(1, x.barred());
        dueBarred(x, 0, c, number, filter);
    }

    private static void termsOfFailures() {
        edge(6, "FAILURES: 1 NULL,", x -> dueFailure(x, 1, itemAbove(x, 0, 0), 0));
        edge(6, "2 INDEX,", x -> {
            x.shelf(0, LONGS, 0);
            dueFailure(x, 2, itemAbove(x, 0, 0), 0);
        });
        edge(6, "3 SIZE,", x -> dueFailure(x, 3, room(x, 0), -1));
        edge(6, "4 STORE,", x -> dueFailure(x, 4, intoBox(x, 1, 0), 1));
        edge(6, "5 CAST,", x -> {
            x.shelf(0, INTS, 1);
            dueFailure(x, 5, itemAbove(x, 0, 0), 0);
        });
        edge(6, "6 DIVIDE,", x -> dueFailure(x, 6, shares(x, 0, 0), 0));
        edge(6, "7 OWN.", x -> dueFailure(x, 7, own(x, 0), 0));
        edge(12, "8 WILD: the 21st FAILURE in one call", x -> {
            due(1, x.range(failing(x, 20)));
            due(20, x.barred());
            due(WILD, x.range(failing(x, 21)));
            due(1, x.range(failing(x, 20)));
        });
        also(6, "in one ask", x -> {
            int sixteen = sixteenFailures(x), one = own(x, 3), all = passes(x);
            int four = orElse(x, orElse(x, one, one), orElse(x, one, one));
            due(1, x.ask(orElse(x, sixteen, orElse(x, four, all)), 3));
            due(BY_OWN, x.ask(orElse(x, sixteen, four), 3));
            due(WILD, x.ask(orElse(x, sixteen, orElse(x, four, one)), 3));
        });
        edge(12, "(of all that came, met or not;", x -> {
            int met = orElse(x, fails(x), passes(x));
            dueRange(x, pass(x, upTo(x, 20), met), numbersUpTo(20));
            due(0, x.barred());
            due(20, x.told(2));
            due(WILD, x.range(pass(x, upTo(x, 21), met)));
            int tenMet = pass(x, upTo(x, 10), met);
            due(1, x.range(join(x, tenMet, failing(x, 10))));
            due(WILD, x.range(join(x, tenMet, failing(x, 11))));
        });
        edge(12, "of a SHELF's SOURCE, too)", x -> {
            int shelf = itemsOf(x, 0);
            due(BY_NULL, x.range(join(x, failing(x, 19), shelf)));
            due(20, x.told(2));
            int wild = join(x, failing(x, 20), shelf);
            due(WILD, x.range(wild));
            x.shelf(0, A_POINT, 0);
            due(WILD, x.range(wild));
        });
        edge(21, "is not counted,", x -> {
            due(WILD, x.range(failing(x, 30)));
            due(20, x.told(2));
            due(20, x.barred());
        });
        edge(12, "and ends what is under way;", x -> {
            int first = counted(x, fails(x)), later = counted(x, passes(x));
            int wild = pass(x, upTo(x, 30), first);
            due(WILD, x.range(join(x, wild, pass(x, upTo(x, 5), later))));
            due(21, x.asked(first));
            due(0, x.asked(later));
            due(WILD, x.range(every(x, turned(x, near(x, wild, 0, 0)), 2)));
        });
    }

    private static void termsOfWild() {
        edge(6, "no one meets it.", x -> {
            int sixteen = sixteenFailures(x);
            due(WILD, x.ask(orElse(x, sixteen, sixteen), 3));
        });
        also(12, "ELSE does not ask b", x -> {
            int b = counted(x, passes(x));
            dueWildIn(x, orElse(x, fails(x), b));
            due(0, x.asked(b));
        });
        also(12, "BOTH does not ask b", x -> {
            int b = counted(x, passes(x));
            dueWildIn(x, both(x, fails(x), b));
            due(0, x.asked(b));
        });
        also(12, "EITHER does not ask b", x -> {
            int b = counted(x, passes(x));
            dueWildIn(x, either(x, fails(x), b));
            due(0, x.asked(b));
        });
        also(12, "NOT and COUNTED hand it up", x -> {
            int f = counted(x, not(x, fails(x)));
            dueWildIn(x, f);
            due(1, x.asked(f));
        });
        also(17, "PASS does not bar for it", x -> {
            dueWildIn(x, fails(x));
            due(20, x.barred());
            due(NONE, x.bar(20, 0));
            dueThrow(x, y -> y.barredAt(20));
        });
    }

    /** The filter is asked when 20 FAILURES have come. */
    private static void dueWildIn(CandidateRanges x, int filter) {
        due(WILD, x.range(join(x, failing(x, 20), pass(x, upTo(x, 5), filter))));
    }

    private static void termsOfFilters() {
        edge(5, "FILTERS 0, 1, .. (20 at most)", x -> {
            for (int f = 0; f < 20; f++) {
                due(f, below(x, f));
            }
            due(FULL, below(x, 20));
            due(20, x.told(0));
            due(0, x.ask(19, 19));
            due(1, x.ask(19, 18));
            due(NONE, x.ask(20, 0));
        });
        edge(6, "are asked of a number c whether it passes;", x -> {
            int f = below(x, 0);
            due(1, x.ask(f, MIN));
            due(0, x.ask(f, MAX));
        });
        edge(5, "made of a, b (FILTERS made before, where that is said) and v:", x -> {
            due(NONE, not(x, 0));
            due(0, passes(x));
            due(NONE, not(x, 1));
            due(NONE, both(x, 0, 1));
            due(1, both(x, 0, 0));
            due(2, x.filter(BELOW, 99, 99, 5));
        });
        edge(6, "0 BELOW: c is below v.", x -> {
            int f = below(x, -1);
            due(1, x.ask(f, -2));
            due(0, x.ask(f, -1));
            due(0, x.ask(f, 0));
            due(0, x.ask(below(x, MIN), MIN));
            due(0, x.ask(below(x, MAX), MAX));
            due(1, x.ask(below(x, MAX), MAX - 1));
            due(0, x.ask(below(x, MIN), MAX));
            due(1, x.ask(below(x, MAX), MIN));
        });
        edge(6, "1 RESTS: c % v is a", x -> {
            due(1, x.ask(rests(x, 0, 3), 0));
            due(1, x.ask(rests(x, -1, 3), -7));
            due(0, x.ask(rests(x, 2, 3), -7));
            due(1, x.ask(rests(x, 1, -3), 7));
            due(1, x.ask(rests(x, 0, -1), MIN));
            due(1, x.ask(rests(x, LEAST, MAX), LEAST));
            due(1, x.ask(rests(x, -1, MAX), MIN));
            due(0, x.ask(rests(x, 0, MAX), NO_INT));
            due(0, x.ask(rests(x, 0, 3), 1));
        });
        edge(6, "(DIVIDE).", x -> {
            int f = rests(x, 0, 0);
            due(BY_DIVIDE, x.ask(f, 0));
            due(BY_DIVIDE, x.ask(f, MIN));
            due(0, x.ask(rests(x, 0, NO_INT), 1));
        });
        edge(6, "2 SHARES: v by c", x -> {
            int f = shares(x, 1, 6);
            due(1, x.ask(f, 1));
            due(1, x.ask(f, 3));
            due(0, x.ask(f, 4));
            due(0, x.ask(f, MAX));
            due(0, x.ask(f, MIN));
        });
        edge(6, "(cut off toward 0;", x -> {
            due(1, x.ask(shares(x, -4, -7), 2));
            due(0, x.ask(shares(x, -3, -7), 2));
            due(0, x.ask(shares(x, 3, 7), 2));
            due(1, x.ask(shares(x, 2, 7), 2));
            due(1, x.ask(shares(x, -1, -1), 2));
            due(0, x.ask(shares(x, 0, 1), 2));
        });
        edge(6, "the least long by -1 is the least long)", x -> {
            due(0, x.ask(shares(x, LEAST, MIN), -1));
            due(1, x.ask(shares(x, MOST, MIN + 1), -1));
        });
        edge(6, "is above a", x -> {
            due(0, x.ask(shares(x, 5, 5), 1));
            due(1, x.ask(shares(x, 4, 5), 1));
            due(1, x.ask(shares(x, MOST, NO_INT), 1));
            due(0, x.ask(shares(x, MOST, MOST), 1));
            due(0, x.ask(shares(x, LEAST, LEAST), 1));
            due(0, x.ask(shares(x, LEAST, -NO_INT), 1));
        });
        edge(6, "(DIVIDE).", x -> {
            due(BY_DIVIDE, x.ask(shares(x, 0, 5), 0));
            due(BY_DIVIDE, x.ask(shares(x, 0, 0), 0));
            due(0, x.ask(shares(x, 0, 0), NO_INT));
        });
    }

    private static void termsOfItemAndRoom() {
        edge(6, "3 ITEM: item c of SHELF a, a ROW of longs", x -> {
            x.shelf(5, LONGS, 12);
            x.item(5, 0, 1);
            x.item(5, 11, 2);
            int f = itemAbove(x, 5, 0);
            due(1, x.ask(f, 0));
            due(0, x.ask(f, 1));
            due(1, x.ask(f, 11));
        });
        edge(6, "(CAST: it holds something else;", x -> {
            int f = itemAbove(x, 0, -1);
            x.shelf(0, INTS, 1);
            due(BY_CAST, x.ask(f, 0));
            due(BY_CAST, x.ask(f, 1));
            x.shelf(0, A_POINT, 0);
            due(BY_CAST, x.ask(f, 0));
            due(BY_CAST, x.ask(f, MIN));
            x.shelf(0, LONGS, 1);
            due(1, x.ask(f, 0));
        });
        edge(6, "NULL;", x -> {
            int f = itemAbove(x, 0, -1);
            due(BY_NULL, x.ask(f, 0));
            due(BY_NULL, x.ask(f, MAX));
            x.shelf(0, LONGS, 1);
            x.shelf(0, NOTHING, 1);
            due(BY_NULL, x.ask(f, 0));
        });
        edge(6, "INDEX,", x -> {
            int f = itemAbove(x, 0, -1);
            x.shelf(0, LONGS, 0);
            due(BY_INDEX, x.ask(f, 0));
            x.shelf(0, LONGS, 3);
            due(BY_INDEX, x.ask(f, -1));
            due(1, x.ask(f, 2));
            due(BY_INDEX, x.ask(f, 3));
            x.shelf(0, LONGS, 12);
            due(BY_INDEX, x.ask(f, 12));
        });
        edge(6, "also where c is no int),", x -> {
            int f = itemAbove(x, 0, -1);
            x.shelf(0, LONGS, 3);
            due(BY_INDEX, x.ask(f, NO_INT));
            due(BY_INDEX, x.ask(f, NO_INT + 2));
            due(BY_INDEX, x.ask(f, -NO_INT));
            due(BY_INDEX, x.ask(f, MIN));
            due(BY_INDEX, x.ask(f, MAX));
            due(BY_INDEX, x.ask(f, MOST));
            due(BY_INDEX, x.ask(f, LEAST));
        });
        edge(6, "is above v.", x -> {
            x.shelf(0, LONGS, 3);
            x.item(0, 1, MIN);
            x.item(0, 2, MAX);
            due(0, x.ask(itemAbove(x, 0, 0), 0));
            due(1, x.ask(itemAbove(x, 0, -1), 0));
            due(0, x.ask(itemAbove(x, 0, MIN), 1));
            due(0, x.ask(itemAbove(x, 0, MAX), 2));
            due(1, x.ask(itemAbove(x, 0, MAX - 1), 2));
            due(1, x.ask(itemAbove(x, 0, MIN), 2));
        });
        edge(6, "4 ROOM: a new ROW of c bytes has v items or more", x -> {
            due(1, x.ask(room(x, 0), 0));
            due(0, x.ask(room(x, 1), 0));
            due(1, x.ask(room(x, 12), 12));
            due(0, x.ask(room(x, 12), 11));
            due(0, x.ask(room(x, 13), 12));
            due(1, x.ask(room(x, MIN), 0));
            due(0, x.ask(room(x, MAX), 12));
        });
        edge(6, "(OWN: c is above 12;", x -> {
            int f = room(x, 0);
            due(1, x.ask(f, 12));
            due(BY_OWN, x.ask(f, 13));
            due(BY_OWN, x.ask(f, NO_INT));
            due(BY_OWN, x.ask(f, NO_INT - 1));
            due(BY_OWN, x.ask(f, MAX));
        });
        edge(6, "SIZE: below 0).", x -> {
            int f = room(x, 0);
            due(1, x.ask(f, 0));
            due(BY_SIZE, x.ask(f, -1));
            due(BY_SIZE, x.ask(f, -NO_INT));
            due(BY_SIZE, x.ask(f, MIN));
        });
    }

    private static void termsOfBox() {
        edge(6, "5 BOX: a GEM (c is 0 by 3;", x -> {
            for (long c : new long[] {0, 3, MAX - 1}) {
                dueThing(A_GEM, c);
            }
        });
        edge(6, "1: a SHELL;", x -> {
            for (long c : new long[] {1, 4, MAX}) {
                dueThing(A_SHELL, c);
            }
        });
        edge(6, "2, and below 0: a STONE)", x -> {
            for (long c : new long[] {2, 5, MAX - 2, -1, -2, -4, MIN}) {
                dueThing(A_STONE, c);
            }
        });
        edge(6, "is put into item 0 .. 2 (v by 3, what is left over, without sign) of BOX a", x -> {
            long[] items = {0, 0, 1, 1, 2, 2, 3, 0, 5, 2, -1, 1, -2, 2, -3, 0, MAX, 1, MIN, 2};
            for (int i = 0; i < items.length; i += 2) {
                dueItem((int) items[i + 1], items[i]);
            }
        });
        edge(6, "(STORE);", x -> {
            int stones = intoBox(x, 0, 0), gems = intoBox(x, 1, 1);
            due(1, x.ask(stones, 2));
            due(BY_STORE, x.ask(stones, 1));
            due(A_STONE, x.box(0, 0));
            due(BY_STORE, x.ask(gems, 2));
            due(BY_STORE, x.ask(gems, -1));
            due(BY_STORE, x.ask(gems, 1));
            due(EMPTY, x.box(1, 1));
        });
        edge(6, "it passes.", x -> {
            int f = intoBox(x, 2, 0);
            for (long c : new long[] {MIN, -1, 0, 1, 2, MAX}) {
                due(1, x.ask(f, c));
            }
            dueRange(x, pass(x, upTo(x, 3), f), 1, 2, 3);
        });
    }

    private static void dueThing(int thing, long c) {
        CandidateRanges x = new CandidateRanges();
        due(1, x.ask(intoBox(x, 2, 0), c));
        due(thing, x.box(2, 0));
    }

    private static void dueItem(int item, long v) {
        CandidateRanges x = new CandidateRanges();
        x.ask(intoBox(x, 2, v), 1);
        for (int i = 0; i < 3; i++) {
            due(i == item ? A_SHELL : EMPTY, x.box(2, i));
        }
    }

    private static void termsOfMadeFilters() {
        edge(6, "6 OWN: fails by OWN, if c is v;", x -> {
            for (long v : new long[] {MIN, -1, 0, 1, NO_INT, MAX}) {
                due(BY_OWN, x.ask(own(x, v), v));
            }
        });
        edge(6, "else it passes.", x -> {
            due(1, x.ask(own(x, 0), 1));
            due(1, x.ask(own(x, 0), -1));
            due(1, x.ask(own(x, 0), NO_INT));
            due(1, x.ask(own(x, MIN), MAX));
        });
        edge(6, "7 NOT a.", x -> {
            due(0, x.ask(not(x, passes(x)), 0));
            due(1, x.ask(not(x, stops(x)), 0));
            due(BY_DIVIDE, x.ask(not(x, fails(x)), 0));
        });
        edge(6, "8 BOTH a, b: b is asked if a passes.", x -> {
            int pass = passes(x), stop = stops(x), fail = fails(x), b = counted(x, passes(x));
            due(1, x.ask(both(x, pass, b), 0));
            due(1, x.asked(b));
            due(0, x.ask(both(x, stop, b), 0));
            due(BY_DIVIDE, x.ask(both(x, fail, b), 0));
            due(1, x.asked(b));
            due(0, x.ask(both(x, pass, stop), 0));
            due(BY_DIVIDE, x.ask(both(x, pass, fail), 0));
        });
        edge(6, "9 EITHER: b is asked if a does not.", x -> {
            int pass = passes(x), stop = stops(x), fail = fails(x), b = counted(x, passes(x));
            due(1, x.ask(either(x, stop, b), 0));
            due(1, x.asked(b));
            due(1, x.ask(either(x, pass, b), 0));
            due(BY_DIVIDE, x.ask(either(x, fail, b), 0));
            due(1, x.asked(b));
            due(0, x.ask(either(x, stop, stop), 0));
            due(BY_DIVIDE, x.ask(either(x, stop, fail), 0));
        });
        edge(6, "10 ELSE: as a;", x -> {
            int b = counted(x, fails(x));
            due(1, x.ask(orElse(x, passes(x), b), 0));
            due(0, x.ask(orElse(x, stops(x), b), 0));
            due(0, x.asked(b));
        });
        edge(6, "where a FAILS, as b.", x -> {
            int fail = fails(x);
            due(1, x.ask(orElse(x, fail, passes(x)), 0));
            due(0, x.ask(orElse(x, fail, stops(x)), 0));
            due(BY_OWN, x.ask(orElse(x, fail, own(x, 0)), 0));
        });
        edge(6, "11 COUNTED: as a;", x -> {
            due(1, x.ask(counted(x, passes(x)), 0));
            due(0, x.ask(counted(x, stops(x)), 0));
            due(BY_DIVIDE, x.ask(counted(x, fails(x)), 0));
        });
        edge(7, "how often it was asked is told.", x -> {
            int f = counted(x, own(x, 1));
            due(0, x.asked(f));
            x.ask(f, 0);
            x.ask(f, 1);
            due(2, x.asked(f));
        });
        edge(6, "12 POINT: c is above the POINT of SHELF a", x -> {
            int f = abovePoint(x, 5);
            x.shelf(5, A_POINT, MOST);
            due(0, x.ask(f, MOST));
            due(1, x.ask(f, MOST + 1L));
            due(1, x.ask(f, MAX));
            due(0, x.ask(f, MIN));
            x.shelf(5, A_POINT, LEAST);
            due(0, x.ask(f, LEAST));
            due(0, x.ask(f, -NO_INT));
            due(1, x.ask(f, LEAST + 1L));
        });
        edge(6, "(NULL;", x -> due(BY_NULL, x.ask(abovePoint(x, 0), 0)));
        edge(6, "CAST).", x -> {
            int f = abovePoint(x, 0);
            x.shelf(0, LONGS, 1);
            due(BY_CAST, x.ask(f, 0));
            x.shelf(0, INTS, 0);
            due(BY_CAST, x.ask(f, 0));
        });
        edge(5, "At most 6 FILTERS lie in one another.", x -> {
            int sixth = notsOver(x, passes(x), 5);
            due(5, sixth);
            due(FULL, not(x, sixth));
            due(FULL, both(x, 0, sixth));
            due(FULL, both(x, sixth, 0));
            due(6, either(x, sixth - 1, sixth - 1));
            due(0, x.ask(sixth, 1));
        });
        edge(18, "A FAILURE AROSE in the innermost FILTER that was asked then.", x -> {
            int first = fails(x), second = own(x, 4);
            dueArose(x, first, first);
            dueArose(x, first, not(x, counted(x, first)));
            dueArose(x, second, both(x, passes(x), second));
            dueArose(x, second, either(x, stops(x), second));
            dueArose(x, second, orElse(x, first, second));
            dueArose(x, first, orElse(x, second, counted(x, first)));
        });
    }

    private static void dueArose(CandidateRanges x, int innermost, int filter) {
        due(1, x.range(pass(x, listOf(x, 4), filter)));
        due(innermost, x.bar(0, 1));
    }

    private static void termsOfSpansAndLists() {
        edge(11, "SOURCES 0, 1, .. (20 at most)", x -> {
            for (int s = 0; s < 18; s++) {
                due(s, x.span(s, s, 1));
            }
            due(18, x.list());
            due(19, join(x, 17, 18));
            due(FULL, x.span(0, 0, 1));
            due(FULL, x.list());
            due(FULL, join(x, 17, 18));
            due(FULL, itemsOf(x, 0));
            due(20, x.told(1));
            dueRange(x, 19, 17);
            due(NONE, x.range(20));
        });
        none("have NUMBERS in an order,");
        edge(11, "made of s, t (SOURCES made before) and more:", x -> {
            due(NONE, turned(x, 0));
            due(0, x.list());
            due(NONE, turned(x, 1));
            due(NONE, join(x, 0, 1));
            due(1, join(x, 0, 0));
        });
        edge(8, "0 SPAN from low by step (1 or more)", x -> {
            dueRange(x, x.span(-1, 1, 1), -1, 0, 1);
            dueRange(x, x.span(0, MAX, MAX), 0, MAX);
            dueRange(x, x.span(MIN, MIN + 1, 1), MIN, MIN + 1);
            due(BAD, x.span(0, 1, 0));
        });
        edge(8, "up to high at most", x -> {
            dueRange(x, x.span(1, 7, 3), 1, 4, 7);
            dueRange(x, x.span(1, 6, 3), 1, 4);
            dueRange(x, x.span(1, 3, 3), 1);
            dueRange(x, x.span(MAX - 2, MAX, 2), MAX - 2, MAX);
            dueRange(x, x.span(MAX - 2, MAX - 1, 2), MAX - 2);
        });
        edge(8, "(none, if low is above it).", x -> {
            dueRange(x, x.span(1, 0, 1));
            dueRange(x, x.span(MAX, MIN, 1));
            dueRange(x, x.span(MAX, MIN, MAX));
            dueRange(x, x.span(MIN, MIN, 1), MIN);
        });
        edge(10, "1 LIST, as told by add() (12 at most).", x -> {
            int s = x.list();
            dueRange(x, s);
            for (int i = 1; i <= 12; i++) {
                due(i, x.add(s, i));
            }
            due(FULL, x.add(s, 13));
            dueRange(x, s, numbersUpTo(12));
        });
    }

    private static void termsOfJoinMeetLess() {
        edge(12, "2 JOIN: those of s, then of t.", x -> {
            int s = listOf(x, 9, 1), t = listOf(x, 5, 9), none = x.list();
            dueRange(x, join(x, s, t), 9, 1, 5);
            dueRange(x, join(x, t, s), 5, 9, 1);
            dueRange(x, join(x, none, t), 5, 9);
            dueRange(x, join(x, t, none), 5, 9);
            dueRange(x, every(x, join(x, s, s), 3), 9, 1);
        });
        also(12, "t of every sort", x -> {
            int s = listOf(x, 9, 8), t = listOf(x, 1, 2, 3);
            x.shelf(0, INTS, 1);
            dueRange(x, join(x, s, x.span(1, 2, 1)), 9, 8, 1, 2);
            dueRange(x, join(x, s, join(x, t, s)), 9, 8, 1, 2, 3);
            dueRange(x, join(x, s, meet(x, t, t)), 9, 8, 1, 2, 3);
            dueRange(x, join(x, s, less(x, t, s)), 9, 8, 1, 2, 3);
            dueRange(x, join(x, s, turned(x, t)), 9, 8, 3, 2, 1);
            dueRange(x, join(x, s, near(x, t, 200, 3)), 9, 8, 3, 2, 1);
            dueRange(x, join(x, s, pass(x, t, below(x, 3))), 9, 8, 1, 2);
            dueRange(x, join(x, s, every(x, t, 2)), 9, 8, 1, 3);
            dueRange(x, join(x, s, itemsOf(x, 0)), 9, 8, 0);
        });
        also(12, "t that is itself joined, of 200", x -> {
            int t = join(x, upTo(x, 100), x.span(101, 200, 1));
            dueRange(x, meet(x, upTo(x, 200), t), numbersUpTo(200));
        });
        edge(12, "3 MEET: those of s that are in t.", x -> {
            int s = listOf(x, 3, MIN, 3, MAX, 1), t = listOf(x, MAX, 3, MIN), none = x.list();
            dueRange(x, meet(x, s, t), 3, MIN, MAX);
            dueRange(x, every(x, meet(x, s, t), 2), 3);
            dueRange(x, meet(x, s, none));
            dueRange(x, meet(x, none, s));
            dueRange(x, meet(x, t, t), MAX, 3, MIN);
            dueRange(x, meet(x, listOf(x, NO_INT), listOf(x, 0)));
        });
        edge(12, "4 LESS: those of s that are not in t.", x -> {
            int s = listOf(x, 3, MIN, 3, MAX, 1), t = listOf(x, MAX, MIN), none = x.list();
            dueRange(x, less(x, s, t), 3, 1);
            dueRange(x, every(x, less(x, s, t), 2), 3, 1);
            dueRange(x, every(x, less(x, s, t), 3), 3);
            dueRange(x, less(x, s, none), 3, MIN, MAX, 1);
            dueRange(x, less(x, none, s));
            dueRange(x, less(x, s, s));
        });
    }

    private static void termsOfTurnedAndNear() {
        edge(12, "5 TURNED: s backwards.", x -> {
            dueRange(x, turned(x, x.span(MIN, MIN + 2, 1)), MIN + 2, MIN + 1, MIN);
            dueRange(x, turned(x, x.span(MAX - 4, MAX, 3)), MAX - 1, MAX - 4);
            dueRange(x, turned(x, x.span(1, 0, 1)));
            dueRange(x, turned(x, x.span(5, 5, 1)), 5);
            dueRange(x, turned(x, listOf(x, 1, 2, 3, 1)), 1, 3, 2);
            dueRange(x, turned(x, turned(x, listOf(x, 1, 2))), 1, 2);
            dueRange(x, turned(x, x.list()));
        });
        edge(12, "6 NEAR: those of s by how far they are from v (exactly),", x -> {
            int s = listOf(x, MAX, 0, MIN, -1);
            dueRange(x, near(x, s, 4, MIN), MIN, -1, 0, MAX);
            dueRange(x, near(x, s, 4, MAX), MAX, 0, -1, MIN);
            dueRange(x, near(x, s, 4, 0), 0, -1, MAX, MIN);
            dueRange(x, near(x, s, 4, -1), -1, 0, MIN, MAX);
        });
        edge(12, "then the lesser first;", x -> {
            dueRange(x, near(x, listOf(x, 5, -5, 0), 3, 0), 0, -5, 5);
            dueRange(x, near(x, listOf(x, -5, 5), 1, 0), -5);
            dueRange(x, near(x, listOf(x, MAX - 1, MIN), 2, -1), MIN, MAX - 1);
            dueRange(x, near(x, listOf(x, MIN, MAX - 1), 1, -1), MIN);
        });
        edge(12, "the first n of them (0 .. 200).", x -> {
            int s = upTo(x, 200);
            dueRange(x, near(x, s, 0, 1));
            dueRange(x, near(x, s, 1, 1), 1);
            dueRange(x, near(x, s, 199, 1), numbersUpTo(199));
        });
        also(12, "all 200, and fewer than n", x -> {
            dueRange(x, near(x, upTo(x, 200), 200, 1), numbersUpTo(200));
            dueRange(x, near(x, upTo(x, 2), 200, 2), 2, 1);
            dueRange(x, near(x, x.list(), 3, 2));
        });
        also(11, "n too small, too large", x -> {
            int s = upTo(x, 3);
            due(BAD, near(x, s, -1, 0));
            due(BAD, near(x, s, 201, 0));
            due(1, near(x, s, 0, 0));
            due(2, near(x, s, 200, 0));
        });
    }

    private static void termsOfPass() {
        edge(12, "7 PASS: those of s that a FILTER lets pass, asked in order;", x -> {
            int s = listOf(x, 5, 1, 3, 4), f = below(x, 4);
            dueRange(x, pass(x, s, f), 1, 3);
            dueRange(x, pass(x, x.list(), f));
            dueRange(x, pass(x, s, intoBox(x, 2, 0)), 5, 1, 3, 4);
            due(A_SHELL, x.box(2, 0));
            due(1, x.range(pass(x, s, fails(x))));
            due(5, x.barredAt(0));
            due(1, x.barredAt(1));
            due(4, x.barredAt(3));
        });
        also(7, "as often as a number comes", x -> {
            int f = counted(x, passes(x));
            dueRange(x, pass(x, listOf(x, 2, 2, 2), f), 2);
            due(3, x.asked(f));
        });
        edge(12, "where it FAILS, it does not pass, and is BARRED", x -> {
            dueRange(x, pass(x, upTo(x, 3), own(x, 2)), 1, 3);
            due(1, x.barred());
            dueRange(x, pass(x, upTo(x, 3), stops(x)));
            due(0, x.barred());
            dueRange(x, pass(x, upTo(x, 3), fails(x)));
            due(3, x.barred());
        });
        edge(19, "(its number,", x -> {
            due(1, x.range(pass(x, listOf(x, MIN, 0, MAX), fails(x))));
            due(MIN, x.barredAt(0));
            due(0, x.barredAt(1));
            due(MAX, x.barredAt(2));
        });
        edge(18, "the FAILURE,", x -> {
            due(1, x.range(pass(x, listOf(x, -1, 13), room(x, 0))));
            due(3, x.bar(0, 0));
            due(7, x.bar(1, 0));
        });
        edge(18, "the FILTER in which it AROSE).", x -> {
            int size = room(x, 0), all = either(x, both(x, size, stops(x)), own(x, 0));
            due(1, x.range(pass(x, listOf(x, -1, 0), all)));
            due(size, x.bar(0, 1));
            due(all - 1, x.bar(1, 1));
        });
    }

    private static void termsOfEveryAndShelf() {
        edge(12, "8 EVERY: the first, the (n + 1)-th, .. of s", x -> {
            int plain = upTo(x, 5), list = listOf(x, 1, 2, 3, 4, 5);
            for (int s : new int[] {plain, list}) {
                dueRange(x, every(x, s, 2), 1, 3, 5);
                dueRange(x, every(x, s, 4), 1, 5);
                dueRange(x, every(x, s, 5), 1);
                dueRange(x, every(x, s, 6), 1);
            }
            dueRange(x, every(x, x.list(), 2));
            dueRange(x, every(x, x.span(1, 0, 1), 2));
        });
        also(12, "at the ends of all NUMBERS", x -> {
            int s = x.span(MIN, MAX, MAX);
            dueRange(x, every(x, s, 2), MIN, MAX - 1);
            dueRange(x, turned(x, every(x, s, 2)), MAX - 1, MIN);
            dueRange(x, every(x, turned(x, s), 2), MAX - 1, MIN);
            dueRange(x, every(x, s, 200), MIN);
        });
        edge(11, "(n 1 .. 200).", x -> {
            int s = upTo(x, 201), list = listOf(x, 4, 7);
            due(BAD, every(x, s, 0));
            due(BAD, every(x, s, 201));
            dueRange(x, every(x, s, 200), 1, 201);
            dueRange(x, every(x, list, 1), 4, 7);
            dueRange(x, every(x, list, 200), 4);
        });
        edge(12, "9 SHELF a: the items of its ROW, of longs or ints,", x -> {
            int s = itemsOf(x, 5);
            x.shelf(5, LONGS, 12);
            for (int i = 0; i < 12; i++) {
                x.item(5, i, MAX - i);
            }
            due(1, x.range(s));
            due(12, x.size());
            due(MAX - 11, x.at(11));
            x.shelf(5, INTS, 2);
            x.item(5, 1, -1);
            dueRange(x, s, 0, -1);
            x.shelf(5, INTS, 0);
            dueRange(x, s);
        });
        edge(12, "as they are", x -> {
            x.shelf(0, LONGS, 1);
            int s = turned(x, join(x, itemsOf(x, 0), x.list()));
            dueRange(x, s, 0);
            x.item(0, 0, 8);
            dueRange(x, s, 8);
            x.shelf(0, NOTHING, 0);
            dueNumbers(x, 8);
            due(BY_NULL, x.range(s));
            x.shelf(0, INTS, 0);
            dueRange(x, s);
        });
        edge(12, "(FAILS: NULL;", x -> {
            int s = itemsOf(x, 0);
            due(BY_NULL, x.range(s));
            due(BY_NULL, x.range(near(x, s, 0, 0)));
            due(1, x.told(2));
            due(0, x.barred());
        });
        edge(12, "CAST: a POINT).", x -> {
            x.shelf(0, A_POINT, 0);
            int s = itemsOf(x, 0);
            due(BY_CAST, x.range(s));
            due(BY_CAST, x.range(less(x, x.list(), s)));
            due(1, x.told(2));
            due(0, x.barred());
        });
    }

    private static void termsOfPlain() {
        edge(11, "At most 6 SOURCES lie in one another.", x -> {
            int sixth = turnedOften(x, listOf(x, 1, 2), 5);
            due(5, sixth);
            due(FULL, turned(x, sixth));
            due(FULL, join(x, 0, sixth));
            due(FULL, join(x, sixth, 0));
            due(6, meet(x, sixth - 1, sixth - 1));
            dueRange(x, sixth, 2, 1);
        });
        also(11, "PLAIN ones too", x -> {
            int sixth = turnedOften(x, upTo(x, 2), 5);
            due(FULL, every(x, sixth, 1));
            dueRange(x, sixth, 2, 1);
        });
        also(11, "over a SHELF", x -> {
            x.shelf(0, LONGS, 1);
            int sixth = turnedOften(x, itemsOf(x, 0), 5);
            due(FULL, turned(x, sixth));
            dueRange(x, sixth, 0);
        });
        also(12, "each of the six with 200 NUMBERS", x -> {
            int most = upTo(x, 200), s = most;
            for (int level = 2; level <= 6; level++) {
                s = meet(x, most, s);
            }
            dueRange(x, s, numbersUpTo(200));
        });
        edge(21, "PLAIN are SPAN,", x -> {
            duePlain(x, 1, upTo(x, 3));
            duePlain(x, 1, x.span(1, 0, 1));
            duePlain(x, 1, x.span(MIN, -2, 1));
            duePlain(x, 0, x.list());
            x.shelf(0, LONGS, 1);
            duePlain(x, 0, itemsOf(x, 0));
        });
        edge(21, "and TURNED and EVERY of PLAIN ones:", x -> {
            int plain = upTo(x, 3), list = x.list();
            duePlain(x, 1, turned(x, plain));
            duePlain(x, 1, every(x, plain, 2));
            duePlain(x, 1, turned(x, every(x, turned(x, plain), 1)));
            duePlain(x, 0, turned(x, list));
            duePlain(x, 0, every(x, list, 2));
            duePlain(x, 0, join(x, plain, plain));
            duePlain(x, 0, meet(x, plain, plain));
            duePlain(x, 0, less(x, plain, plain));
            duePlain(x, 0, near(x, plain, 200, 0));
            duePlain(x, 0, pass(x, plain, passes(x)));
            duePlain(x, 0, turned(x, near(x, plain, 200, 0)));
        });
        edge(12, "they are told without going through them;", x -> {
            int s = x.span(MIN, -2, 1);
            due(1, x.range(turned(x, s)));
            due(MAX, x.size());
            due(-2, x.at(0));
            due(MIN, x.at(MAX - 1));
            due(MAX - 1, x.place(MIN));
            due(1, x.range(every(x, turned(x, s), 200)));
            due((MAX - 1) / 200 + 1, x.size());
            due(-2 - (MAX - 1) / 200 * 200, x.at((MAX - 1) / 200));
            due(1, x.place(-202));
            due(-1, x.place(-201));
        });
        edge(7, "others are gone through:", x -> {
            int f = counted(x, passes(x)), s = pass(x, upTo(x, 200), f);
            due(1, x.range(s));
            due(200, x.asked(f));
            due(1, x.range(near(x, s, 0, 0)));
            due(400, x.asked(f));
        });
    }

    private static void duePlain(CandidateRanges x, int want, int s) {
        due(1, x.range(s));
        due(want, x.told(3));
    }

    private static void termsOfLarge() {
        edge(12, "LARGE, if a SOURCE that is not PLAIN,", x -> {
            int hundred = upTo(x, 100), more = x.span(101, 201, 1);
            due(LARGE, x.range(join(x, hundred, more)));
            due(1, x.range(join(x, hundred, hundred)));
            due(LARGE, x.range(join(x, join(x, hundred, hundred), listOf(x, 1))));
        });
        also(12, "PLAIN ones never", x -> {
            int s = x.span(MIN, -2, 1);
            due(1, x.range(s));
            due(1, x.range(turned(x, s)));
            due(1, x.range(every(x, s, 1)));
        });
        edge(12, "or one that it is made of,", x -> {
            int large = upTo(x, 201), small = listOf(x, 1);
            due(LARGE, x.range(meet(x, large, small)));
            due(LARGE, x.range(meet(x, small, large)));
            due(LARGE, x.range(less(x, large, small)));
            due(LARGE, x.range(less(x, small, large)));
            due(LARGE, x.range(near(x, large, 1, 0)));
            due(LARGE, x.range(pass(x, large, stops(x))));
            due(LARGE, x.range(turned(x, every(x, near(x, large, 0, 0), 200))));
            due(LARGE, x.range(near(x, turned(x, large), 1, 0)));
        });
        edge(12, "has more than 200", x -> {
            int all = passes(x);
            dueRange(x, pass(x, upTo(x, 200), all), numbersUpTo(200));
            due(LARGE, x.range(pass(x, upTo(x, 201), all)));
            due(LARGE, x.range(pass(x, x.span(MIN, -2, 1), all)));
            due(1, x.range(join(x, upTo(x, 199), listOf(x, 7))));
            due(LARGE, x.range(join(x, upTo(x, 199), listOf(x, 7, 7))));
        });
        edge(12, "(asked of s,", x -> {
            int large = upTo(x, 201), failed = itemsOf(x, 0);
            due(LARGE, x.range(join(x, large, failed)));
            due(BY_NULL, x.range(join(x, failed, large)));
        });
        edge(12, "then of t,", x -> {
            int f = counted(x, passes(x)), s = pass(x, upTo(x, 10), f), large = upTo(x, 201);
            due(LARGE, x.range(meet(x, s, large)));
            due(10, x.asked(f));
            due(LARGE, x.range(meet(x, large, s)));
            due(10, x.asked(f));
        });
        edge(12, "each as it is come to,", x -> {
            int f = counted(x, fails(x));
            due(LARGE, x.range(pass(x, upTo(x, 201), f)));
            due(0, x.asked(f));
            due(LARGE, x.range(join(x, pass(x, upTo(x, 5), f), pass(x, upTo(x, 201), f))));
            due(5, x.asked(f));
            due(5, x.barred());
        });
        edge(12, "then of itself).", x -> {
            int f = counted(x, passes(x)), s = pass(x, upTo(x, 150), f);
            due(LARGE, x.range(join(x, s, s)));
            due(300, x.asked(f));
            due(BY_NULL, x.range(join(x, upTo(x, 200), join(x, upTo(x, 1), itemsOf(x, 0)))));
        });
        edge(12, "A RANGE of a SOURCE: its NUMBERS, each once,", x -> {
            int s = listOf(x, 5, 5, 5);
            dueRange(x, s, 5);
            dueRange(x, join(x, s, s), 5);
            dueRange(x, x.list());
            dueRange(x, listOf(x, NO_INT, 0, MIN, MAX, -1, 0), NO_INT, 0, MIN, MAX, -1);
        });
        edge(12, "where it comes first.", x -> {
            int s = listOf(x, 1, 2, 1, 3, 2);
            dueRange(x, s, 1, 2, 3);
            dueRange(x, turned(x, s), 2, 3, 1);
            dueRange(x, every(x, s, 2), 1, 2);
        });
    }

    private static void refusals() {
        section("Refusals");
        edge(12, "Refusals are answers below 0,", x -> {
            due(x.shelf(6, NOTHING, 0) < 0);
            due(x.item(0, 0, 0) < 0);
            due(x.box(3, 0) < 0);
            due(x.filter(13, 0, 0, 0) < 0);
            due(x.ask(0, 0) < 0);
            due(x.asked(0) < 0);
            due(x.span(0, 0, 0) < 0);
            due(x.add(0, 0) < 0);
            due(x.source(1, 0, 0, 0, 0, 0) < 0);
            due(x.range(0) < 0);
            due(x.bar(0, 0) < 0);
            due(x.told(4) < 0);
        });
        edge(2, "the first that fits as the call names them;", x -> {
            due(NONE, x.shelf(6, 4, 13));
            due(NONE, x.shelf(-1, LONGS, -1));
        });
        also(3, "item: NONE, NULL, CAST, INDEX", x -> {
            due(NONE, x.item(6, 12, 0));
            due(BY_NULL, x.item(0, 12, 0));
            x.shelf(0, A_POINT, 3);
            due(BY_CAST, x.item(0, 12, 0));
        });
        also(5, "filter: BAD, NONE, FULL", x -> {
            int sixth = notsOver(x, passes(x), 5);
            due(BAD, x.filter(13, 99, 99, 0));
            due(NONE, both(x, sixth, 99));
            due(NONE, both(x, 99, sixth));
            fillFilters(x);
            due(BAD, x.filter(-1, 0, 0, 0));
            due(BAD, itemAbove(x, 6, 0));
            due(BAD, intoBox(x, 3, 0));
            due(NONE, not(x, 20));
            due(NONE, either(x, 0, -1));
            due(FULL, not(x, 0));
        });
        also(8, "span: BAD, FULL", x -> {
            due(BAD, x.span(MIN, MAX, 0));
            fillSources(x);
            due(BAD, x.span(0, 1, -1));
            due(FULL, x.span(0, 1, 1));
        });
        also(11, "source: BAD, NONE, FULL", x -> {
            due(BAD, x.source(1, 99, 99, 99, 999, 0));
            due(BAD, x.source(10, 99, 99, 99, 999, 0));
            due(BAD, near(x, 99, 201, 0));
            due(BAD, every(x, 99, 0));
            int sixth = turnedOften(x, upTo(x, 1), 5);
            due(NONE, join(x, sixth, 99));
            due(NONE, pass(x, sixth, 0));
            fillSources(x);
            due(BAD, near(x, 0, -1, 0));
            due(BAD, itemsOf(x, 6));
            due(NONE, turned(x, 20));
            due(NONE, pass(x, 0, 0));
            due(FULL, turned(x, 0));
        });
        also(18, "bar: NONE, BAD", x -> {
            due(NONE, x.bar(0, 2));
            x.range(failing(x, 1));
            due(NONE, x.bar(1, 2));
            due(BAD, x.bar(0, 2));
        });
        refusalsThatChangeNothing();
        refusalsThatLeaveRecords();
        refusalsByName();
    }

    private static void refusalsThatChangeNothing() {
        edge(2, "they change nothing", x -> {
            dueUnchanged(NONE, EdgeTests::furnish, y -> y.shelf(6, NOTHING, 0));
            dueUnchanged(BAD, EdgeTests::furnish, y -> y.shelf(0, 4, 0));
            dueUnchanged(BAD, EdgeTests::furnish, y -> y.shelf(0, LONGS, 13));
            dueUnchanged(BAD, EdgeTests::furnish, y -> y.shelf(1, INTS, -1));
        });
        also(3, "item", x -> {
            dueUnchanged(NONE, EdgeTests::furnish, y -> y.item(6, 0, 5));
            dueUnchanged(BY_NULL, EdgeTests::furnish, y -> y.item(3, 0, 5));
            dueUnchanged(BY_CAST, EdgeTests::furnish, y -> y.item(2, 0, 5));
            dueUnchanged(BY_INDEX, EdgeTests::furnish, y -> y.item(0, 3, 5));
            dueUnchanged(BY_INDEX, EdgeTests::furnish, y -> y.item(1, -1, 5));
        });
        also(4, "box", x -> dueUnchanged(NONE, EdgeTests::furnish, y -> y.box(2, 3)));
        also(5, "filter", x -> {
            dueUnchanged(BAD, EdgeTests::furnish, y -> y.filter(13, 0, 0, 0));
            dueUnchanged(BAD, EdgeTests::furnish, y -> itemAbove(y, 6, 0));
            dueUnchanged(BAD, EdgeTests::furnish, y -> intoBox(y, 3, 0));
            dueUnchanged(NONE, EdgeTests::furnish, y -> not(y, 6));
            dueUnchanged(FULL, EdgeTests::furnishAndFill, y -> below(y, 0));
            dueUnchanged(FULL, y -> notsOver(y, passes(y), 5), y -> not(y, 5));
        });
        also(6, "ask", x -> {
            dueUnchanged(NONE, EdgeTests::furnish, y -> y.ask(-1, 0));
            dueUnchanged(NONE, EdgeTests::furnish, y -> y.ask(6, 0));
        });
        also(7, "asked", x -> dueUnchanged(NONE, EdgeTests::furnish, y -> y.asked(6)));
        also(8, "span", x -> {
            dueUnchanged(BAD, EdgeTests::furnish, y -> y.span(0, 1, 0));
            dueUnchanged(FULL, EdgeTests::furnish, y -> y.span(MIN, MAX, 1));
            dueUnchanged(FULL, EdgeTests::furnishAndFill, y -> y.span(0, 1, 1));
        });
        also(9, "list", x -> dueUnchanged(FULL, EdgeTests::furnishAndFill, y -> y.list()));
        also(10, "add", x -> {
            dueUnchanged(NONE, EdgeTests::furnish, y -> y.add(0, 5));
            dueUnchanged(NONE, EdgeTests::furnish, y -> y.add(6, 5));
            dueUnchanged(FULL, y -> listOf(y, 1, 2, 3, 4, 5, 6, 7, 8, 9, 10, 11, 12), y -> y.add(0, 13));
        });
        also(11, "source", x -> {
            dueUnchanged(BAD, EdgeTests::furnish, y -> y.source(10, 0, 0, 0, 1, 0));
            dueUnchanged(BAD, EdgeTests::furnish, y -> near(y, 0, 201, 0));
            dueUnchanged(BAD, EdgeTests::furnish, y -> itemsOf(y, 6));
            dueUnchanged(NONE, EdgeTests::furnish, y -> join(y, 0, 6));
            dueUnchanged(NONE, EdgeTests::furnish, y -> pass(y, 0, 6));
            dueUnchanged(FULL, EdgeTests::furnishAndFill, y -> turned(y, 0));
            dueUnchanged(FULL, y -> turnedOften(y, upTo(y, 2), 5), y -> turned(y, 5));
        });
        also(12, "range", x -> {
            dueUnchanged(NONE, EdgeTests::furnish, y -> y.range(-1));
            dueUnchanged(NONE, EdgeTests::furnish, y -> y.range(6));
        });
        also(18, "bar", x -> {
            dueUnchanged(NONE, EdgeTests::furnish, y -> y.bar(4, 0));
            dueUnchanged(BAD, EdgeTests::furnish, y -> y.bar(3, 2));
        });
        also(21, "told", x -> dueUnchanged(BAD, EdgeTests::furnish, y -> y.told(4)));
    }

    private static void refusalsThatLeaveRecords() {
        Test furnished = y -> {
            furnish(y);
            join(y, 4, upTo(y, 201));
            join(y, 4, itemsOf(y, 3));
            failing(y, 21);
        };
        edge(12, "(LARGE,", x -> dueUnchangedButRecords(LARGE, furnished, y -> y.range(7)));
        edge(12, "FAILED ones but COUNTED,", x -> {
            furnished.of(x);
            int before = x.asked(2);
            due(BY_NULL, x.range(9));
            due(before + 7, x.asked(2));
            due(LARGE, x.range(7));
            due(before + 14, x.asked(2));
        });
        also(12, "FAILED", x -> {
            dueUnchangedButRecords(BY_NULL, furnished, y -> y.range(9));
            dueUnchangedButRecords(WILD, furnished, y -> y.range(11));
        });
        also(6, "FAILED by ask", x -> {
            dueUnchangedButRecords(BY_DIVIDE, furnished, y -> y.ask(2, 0));
            dueUnchangedButRecords(BY_INDEX, furnished, y -> y.ask(5, 3));
        });
        edge(12, "BOXES,", x -> {
            int s = pass(x, listOf(x, 0), intoBox(x, 2, 0)), t = pass(x, listOf(x, 0), intoBox(x, 2, 1));
            due(LARGE, x.range(join(x, s, upTo(x, 201))));
            due(A_GEM, x.box(2, 0));
            due(BY_NULL, x.range(join(x, t, itemsOf(x, 0))));
            due(A_GEM, x.box(2, 1));
        });
        also(6, "BOXES of ask", x -> {
            int f = both(x, intoBox(x, 2, 2), fails(x));
            due(BY_DIVIDE, x.ask(f, 1));
            due(A_SHELL, x.box(2, 2));
        });
        edge(17, "who was BARRED):", x -> {
            int s = failing(x, 3);
            due(LARGE, x.range(join(x, s, upTo(x, 201))));
            due(3, x.barred());
            due(3, x.barredAt(2));
            due(BY_NULL, x.range(join(x, pass(x, upTo(x, 2), 0), itemsOf(x, 0))));
            due(2, x.barred());
            due(NONE, x.bar(2, 0));
        });
    }

    private static void refusalsByName() {
        edge(12, "NONE there is no such thing,", x -> {
            due(-1, x.shelf(6, LONGS, 1));
            due(-1, x.item(-1, 0, 0));
            due(-1, x.box(3, 0));
            due(-1, not(x, 0));
            due(-1, x.ask(0, 0));
            due(-1, x.asked(0));
            due(-1, x.add(0, 0));
            due(-1, turned(x, 0));
            due(-1, x.range(0));
            due(-1, x.bar(0, 0));
        });
        edge(12, "BAD a number is not as told,", x -> {
            due(-2, x.shelf(0, 4, 0));
            due(-2, x.filter(13, 0, 0, 0));
            due(-2, x.span(0, 0, 0));
            due(-2, x.source(1, 0, 0, 0, 0, 0));
            due(-2, x.told(4));
            x.range(failing(x, 1));
            due(-2, x.bar(0, 2));
        });
        edge(12, "FULL,", x -> {
            fillFilters(x);
            fillSources(x);
            due(-3, below(x, 0));
            due(-3, x.span(0, 0, 1));
            due(-3, x.list());
            due(-3, join(x, 0, 0));
        });
        edge(12, "LARGE;", x -> due(-4, x.range(near(x, upTo(x, 201), 0, 0))));
        edge(12, "FAILED: -10 less the FAILURE", x -> {
            int s = itemsOf(x, 0);
            due(-11, x.range(s));
            due(-11, x.item(0, 0, 0));
            due(-16, x.ask(fails(x), 0));
            due(-17, x.ask(own(x, 0), 0));
            x.shelf(0, A_POINT, 0);
            due(-15, x.range(s));
            due(-15, x.item(0, 0, 0));
            x.shelf(0, LONGS, 0);
            due(-12, x.item(0, 0, 0));
        });
        edge(12, "(WILD, too).", x -> {
            int sixteen = sixteenFailures(x);
            due(-18, x.range(failing(x, 21)));
            due(-18, x.ask(orElse(x, sixteen, sixteen), 3));
        });
    }

    private static void promiseSection(int number, String name) {
        section("Promise " + number + ": " + name);
    }

    private static void promise1() {
        promiseSection(1, "A new object");
        edge(1, "SHELVES hold nothing,", x -> {
            for (int k = 0; k < 6; k++) {
                due(BY_NULL, x.item(k, 0, 0));
                due(BY_NULL, x.range(itemsOf(x, k)));
            }
        });
        edge(1, "BOXES are empty;", x -> {
            for (int k = 0; k < 9; k++) {
                due(EMPTY, x.box(k / 3, k % 3));
            }
        });
        edge(1, "no FILTERS,", x -> {
            due(0, x.told(0));
            due(NONE, x.ask(0, 0));
            due(NONE, x.asked(0));
            due(0, below(x, 0));
        });
        edge(1, "no SOURCES,", x -> {
            due(0, x.told(1));
            due(NONE, x.range(0));
            due(NONE, x.add(0, 0));
            due(0, x.list());
        });
        edge(1, "no RANGE.", x -> {
            due(0, x.size());
            due(-1, x.place(0));
            due(0, x.told(3));
            due(0, x.told(2));
            due(0, x.barred());
            dueThrow(x, y -> y.at(0));
            dueThrow(x, y -> y.draw(0));
            dueThrow(x, y -> y.barredAt(0));
        });
    }

    private static void promise2() {
        promiseSection(2, "shelf");
        edge(2, "A SHELF holds: kind 0 nothing,", x -> {
            x.shelf(5, A_POINT, 1);
            due(1, x.shelf(5, 0, LEAST));
            due(BY_NULL, x.item(5, 0, 0));
            due(BY_NULL, x.ask(abovePoint(x, 5), 0));
            due(1, x.shelf(5, 0, MOST));
        });
        edge(2, "1 a ROW of n longs,", x -> {
            int s = itemsOf(x, 0);
            due(1, x.shelf(0, 1, 0));
            dueRange(x, s);
            due(1, x.shelf(0, 1, 12));
            due(1, x.item(0, 11, MIN));
            dueRange(x, s, 0, MIN);
            due(1, x.shelf(0, 1, 12));
            dueRange(x, s, 0);
        });
        edge(2, "2 of n ints (0s),", x -> {
            int s = itemsOf(x, 0);
            due(1, x.shelf(0, 2, 0));
            dueRange(x, s);
            x.shelf(0, 1, 12);
            x.item(0, 0, 5);
            x.item(0, 11, 6);
            due(1, x.shelf(0, 2, 12));
            dueRange(x, s, 0);
            due(1, x.item(0, 11, NO_INT + 7));
            dueRange(x, s, 0, 7);
        });
        edge(2, "3 the POINT n: 1.", x -> {
            int f = abovePoint(x, 0);
            due(1, x.shelf(0, 3, LEAST));
            due(0, x.ask(f, LEAST));
            due(1, x.shelf(0, 3, MOST));
            due(0, x.ask(f, MOST));
            due(1, x.ask(f, MOST + 1L));
        });
        edge(2, "NONE;", x -> {
            for (int k : new int[] {LEAST, -1, 6, MOST}) {
                due(NONE, x.shelf(k, NOTHING, 0));
            }
            due(1, x.shelf(0, NOTHING, 0));
            due(1, x.shelf(5, NOTHING, 0));
        });
        edge(2, "BAD: kind,", x -> {
            for (int kind : new int[] {LEAST, -1, 4, MOST}) {
                due(BAD, x.shelf(0, kind, 1));
            }
        });
        edge(2, "n of 1, 2.", x -> {
            for (int n : new int[] {LEAST, -1, 13, MOST}) {
                due(BAD, x.shelf(0, LONGS, n));
                due(BAD, x.shelf(0, INTS, n));
                due(1, x.shelf(1, NOTHING, n));
                due(1, x.shelf(1, A_POINT, n));
            }
            due(BY_NULL, x.item(0, 0, 0));
        });
    }

    private static void promise3() {
        promiseSection(3, "item");
        edge(3, "Item i of a SHELF's ROW becomes v", x -> {
            x.shelf(0, LONGS, 12);
            due(1, x.item(0, 0, MIN));
            due(1, x.item(0, 11, MAX));
            dueRange(x, itemsOf(x, 0), MIN, 0, MAX);
            due(1, x.item(0, 11, NO_INT));
            dueRange(x, itemsOf(x, 0), MIN, 0, NO_INT);
        });
        edge(3, "(of ints the lowest 32 bits): 1.", x -> {
            x.shelf(0, INTS, 5);
            due(1, x.item(0, 0, NO_INT + 5));
            due(1, x.item(0, 1, MOST + 1L));
            due(1, x.item(0, 2, MAX));
            due(1, x.item(0, 3, LEAST - 1L));
            due(1, x.item(0, 4, MIN));
            dueRange(x, itemsOf(x, 0), 5, LEAST, -1, MOST, 0);
        });
        edge(3, "NONE: no SHELF;", x -> {
            for (int k : new int[] {LEAST, -1, 6, MOST}) {
                due(NONE, x.item(k, 0, 0));
            }
        });
        edge(3, "FAILED by NULL,", x -> {
            due(BY_NULL, x.item(0, 0, 0));
            x.shelf(0, LONGS, 1);
            x.shelf(0, NOTHING, 1);
            due(BY_NULL, x.item(0, 0, 0));
            due(BY_NULL, x.item(5, -1, 0));
        });
        edge(3, "CAST (a POINT),", x -> {
            x.shelf(0, A_POINT, 5);
            due(BY_CAST, x.item(0, 0, 0));
            due(BY_CAST, x.item(0, -1, 0));
            due(0, x.ask(abovePoint(x, 0), 5));
        });
        edge(3, "INDEX.", x -> {
            for (int kind = LONGS; kind <= INTS; kind++) {
                x.shelf(0, kind, 0);
                due(BY_INDEX, x.item(0, 0, 1));
                x.shelf(0, kind, 3);
                due(BY_INDEX, x.item(0, 3, 1));
                due(BY_INDEX, x.item(0, -1, 1));
                due(BY_INDEX, x.item(0, LEAST, 1));
                due(BY_INDEX, x.item(0, MOST, 1));
                dueRange(x, itemsOf(x, 0), 0);
            }
        });
    }

    private static void promise4() {
        promiseSection(4, "box");
        edge(4, "What is in item i of a BOX: 0 nothing,", x -> {
            due(0, x.box(0, 0));
            x.ask(intoBox(x, 2, 2), 0);
            due(0, x.box(2, 1));
            due(0, x.box(1, 2));
        });
        edge(4, "1 a STONE,", x -> {
            x.ask(intoBox(x, 0, 2), MIN);
            due(1, x.box(0, 2));
        });
        edge(4, "2 a GEM,", x -> {
            x.ask(intoBox(x, 1, 0), 0);
            due(2, x.box(1, 0));
        });
        edge(4, "3 a SHELL.", x -> {
            x.ask(intoBox(x, 2, 2), MAX);
            due(3, x.box(2, 2));
        });
        edge(4, "NONE.", x -> {
            for (int k : new int[] {LEAST, -1, 3, MOST}) {
                due(NONE, x.box(k, 0));
                due(NONE, x.box(0, k));
            }
            due(EMPTY, x.box(2, 2));
        });
    }

    private static void promise5() {
        promiseSection(5, "filter");
        edge(5, "A FILTER (kind 0 .. 12;", x -> {
            for (int kind = 0; kind <= 12; kind++) {
                due(kind, x.filter(kind, 0, 0, 1));
            }
        });
        edge(5, "what it has not is not looked at):", x -> {
            due(0, x.filter(BELOW, LEAST, MOST, 0));
            due(1, x.filter(RESTS, LEAST, MOST, 0));
            due(2, x.filter(SHARES, LEAST, MOST, 0));
            due(3, x.filter(ITEM, 5, MOST, 0));
            due(4, x.filter(ROOM, LEAST, MOST, 0));
            due(5, x.filter(BOX, 2, MOST, 0));
            due(6, x.filter(OWN, LEAST, MOST, 0));
            due(7, x.filter(NOT, 0, MOST, MIN));
            due(8, x.filter(COUNTED, 0, LEAST, MAX));
            due(9, x.filter(POINT, 5, MOST, MAX));
            x.shelf(5, A_POINT, 3);
            due(1, x.ask(9, 4));
        });
        edge(5, "its number.", x -> {
            due(0, below(x, 5));
            due(BAD, x.filter(13, 0, 0, 0));
            due(1, not(x, 0));
            for (int f = 2; f < 20; f++) {
                due(f, below(x, f));
            }
            due(1, x.ask(19, 18));
        });
        edge(5, "BAD: kind,", x -> {
            for (int kind : new int[] {LEAST, -1, 13, MOST}) {
                due(BAD, x.filter(kind, 0, 0, 0));
            }
            due(0, x.told(0));
        });
        edge(5, "a SHELF,", x -> {
            for (int a : new int[] {LEAST, -1, 6, MOST}) {
                due(BAD, itemAbove(x, a, 0));
                due(BAD, abovePoint(x, a));
            }
            due(0, itemAbove(x, 5, 0));
            due(1, abovePoint(x, 0));
        });
        edge(5, "BOX;", x -> {
            for (int a : new int[] {LEAST, -1, 3, MOST}) {
                due(BAD, intoBox(x, a, 0));
            }
            due(0, intoBox(x, 2, 0));
            due(1, intoBox(x, 0, 0));
        });
        edge(5, "NONE: a, b as FILTERS;", x -> {
            passes(x);
            for (int none : new int[] {LEAST, -1, 1, 20, MOST}) {
                due(NONE, not(x, none));
                due(NONE, counted(x, none));
                for (int kind = BOTH; kind <= ELSE; kind++) {
                    due(NONE, x.filter(kind, none, 0, 0));
                    due(NONE, x.filter(kind, 0, none, 0));
                }
            }
            due(1, x.told(0));
        });
        edge(5, "FULL: FILTERS,", x -> {
            fillFilters(x);
            for (int kind = 0; kind <= 12; kind++) {
                due(FULL, x.filter(kind, 0, 0, 0));
            }
            due(20, x.told(0));
        });
        edge(5, "or too many in one another.", x -> {
            int sixth = notsOver(x, passes(x), 5);
            due(FULL, not(x, sixth));
            due(FULL, counted(x, sixth));
            for (int kind = BOTH; kind <= ELSE; kind++) {
                due(FULL, x.filter(kind, sixth, 0, 0));
                due(FULL, x.filter(kind, 0, sixth, 0));
            }
            due(6, x.told(0));
            for (int kind = NOT; kind <= COUNTED; kind++) {
                due(kind - 1, x.filter(kind, sixth - 1, sixth - 1, 0));
            }
        });
        also(5, "over each kind that is made of none", x -> {
            for (int kind : new int[] {BELOW, RESTS, SHARES, ITEM, ROOM, BOX, OWN, POINT}) {
                CandidateRanges y = new CandidateRanges();
                int sixth = notsOver(y, y.filter(kind, 0, JUNK, 1), 5);
                due(5, sixth);
                due(FULL, not(y, sixth));
            }
        });
    }

    private static void promise6() {
        promiseSection(6, "ask");
        edge(6, "A FILTER is asked of c: 1, 0.", x -> {
            int f = below(x, MAX);
            due(1, x.ask(f, MIN));
            due(1, x.ask(f, MAX - 1));
            due(0, x.ask(f, MAX));
        });
        edge(6, "NONE;", x -> {
            due(NONE, x.ask(0, 0));
            passes(x);
            for (int f : new int[] {LEAST, -1, 1, 20, MOST}) {
                due(NONE, x.ask(f, 0));
            }
            due(1, x.ask(0, 0));
        });
        edge(6, "FAILED.", x -> {
            int f = own(x, 0);
            due(-17, x.ask(f, 0));
            due(1, x.told(2));
            due(0, x.barred());
            due(1, x.ask(f, 1));
        });
    }

    private static void promise7() {
        promiseSection(7, "asked");
        edge(7, "How often a FILTER COUNTED was asked, ever;", x -> {
            int f = counted(x, shares(x, 0, 1)), outer = counted(x, not(x, f));
            due(0, x.asked(f));
            x.ask(f, 0);
            x.ask(outer, 1);
            x.range(pass(x, x.span(-1, 1, 1), f));
            x.range(pass(x, upTo(x, 201), f));
            due(5, x.asked(f));
            due(1, x.asked(outer));
        });
        edge(7, "of others 0.", x -> {
            for (int kind = 0; kind <= 12; kind++) {
                int f = x.filter(kind, 0, 0, 1);
                x.ask(f, 2);
                due(kind == COUNTED ? 1 : 0, x.asked(f));
            }
        });
        edge(7, "NONE.", x -> {
            due(NONE, x.asked(0));
            passes(x);
            for (int f : new int[] {LEAST, -1, 1, 20, MOST}) {
                due(NONE, x.asked(f));
            }
            due(0, x.asked(0));
        });
    }

    private static void promise8() {
        promiseSection(8, "span");
        edge(8, "A SPAN: its number.", x -> {
            for (int s = 0; s < 20; s++) {
                due(s, x.span(s, s, MAX));
            }
            dueRange(x, 19, 19);
        });
        edge(8, "BAD: step;", x -> {
            due(BAD, x.span(1, 2, 0));
            due(BAD, x.span(1, 2, -1));
            due(BAD, x.span(1, 2, MIN));
            due(BAD, x.span(2, 1, 0));
            due(0, x.span(1, 2, 1));
            due(1, x.span(1, 2, MAX));
        });
        edge(8, "FULL:", x -> {
            fillSources(x);
            due(FULL, x.span(0, 1, 1));
            due(FULL, x.span(1, 0, 1));
            due(20, x.told(1));
        });
        edge(8, "also more than 9223372036854775807 NUMBERS.", x -> {
            due(FULL, x.span(MIN, MAX, 1));
            due(FULL, x.span(MIN, MAX, 2));
            due(FULL, x.span(MIN, -1, 1));
            due(FULL, x.span(0, MAX, 1));
            due(FULL, x.span(-1, MAX, 1));
            due(0, x.told(1));
            duePlainSize(x, MAX, x.span(MIN, -2, 1));
            duePlainSize(x, MAX, x.span(1, MAX, 1));
            duePlainSize(x, MAX, x.span(0, MAX - 1, 1));
            duePlainSize(x, MAX, x.span(MIN, MAX - 2, 2));
            duePlainSize(x, 6148914691236517206L, x.span(MIN, MAX, 3));
        });
    }

    private static void promise9() {
        promiseSection(9, "list");
        edge(9, "A LIST: its number.", x -> {
            for (int s = 0; s < 20; s++) {
                due(s, x.list());
            }
            due(1, x.add(19, 4));
            dueRange(x, 19, 4);
            dueRange(x, 0);
        });
        edge(9, "FULL.", x -> {
            fillSources(x);
            due(FULL, x.list());
            due(20, x.told(1));
        });
    }

    private static void promise10() {
        promiseSection(10, "add");
        edge(10, "A NUMBER comes behind those of a LIST: how many.", x -> {
            int s = x.list();
            due(1, x.add(s, MAX));
            due(2, x.add(s, MIN));
            due(3, x.add(s, MAX));
            dueRange(x, s, MAX, MIN);
            dueRange(x, turned(x, s), MAX, MIN);
            dueRange(x, every(x, s, 2), MAX);
        });
        edge(10, "NONE: no LIST;", x -> {
            due(NONE, x.add(0, 1));
            int list = x.list(), span = upTo(x, 3);
            for (int s : new int[] {LEAST, -1, 2, 20, MOST}) {
                due(NONE, x.add(s, 1));
            }
            x.shelf(0, LONGS, 1);
            due(NONE, x.add(span, 1));
            due(NONE, x.add(itemsOf(x, 0), 1));
            due(NONE, x.add(turned(x, list), 1));
            due(NONE, x.add(join(x, list, list), 1));
            due(1, x.add(list, 1));
        });
        edge(10, "FULL.", x -> {
            int s = listOf(x, 1, 2, 3, 4, 5, 6, 7, 8, 9, 10, 11);
            due(12, x.add(s, 12));
            due(FULL, x.add(s, 13));
            due(FULL, x.add(s, 1));
            dueRange(x, s, numbersUpTo(12));
            due(1, x.add(x.list(), 1));
        });
    }

    private static void duePlainSize(CandidateRanges x, long want, int s) {
        due(1, x.range(s));
        due(want, x.size());
    }

    private static void promise11() {
        promiseSection(11, "source");
        edge(11, "A SOURCE of sort 2 .. 9", x -> {
            x.list();
            passes(x);
            for (int sort = 2; sort <= 9; sort++) {
                due(sort - 1, x.source(sort, 0, 0, 0, 1, 0));
            }
        });
        edge(11, "(t of 2 to 4;", x -> {
            x.list();
            passes(x);
            for (int sort = JOIN; sort <= LESS; sort++) {
                due(NONE, x.source(sort, 0, 1, 0, 1, 0));
            }
            for (int sort = TURNED; sort <= SHELF; sort++) {
                due(sort - TURNED + 1, x.source(sort, 0, MOST, 0, 1, 0));
            }
        });
        edge(11, "n of 6, 8;", x -> {
            x.list();
            passes(x);
            due(BAD, x.source(NEAR, 0, 0, 0, 201, 0));
            due(BAD, x.source(EVERY, 0, 0, 0, 201, 0));
            int number = 1;
            for (int sort : new int[] {JOIN, MEET, LESS, TURNED, PASS, SHELF}) {
                due(number++, x.source(sort, 0, 0, 0, MOST, 0));
                due(number++, x.source(sort, 0, 0, 0, -1, 0));
            }
        });
        edge(11, "v of 6;", x -> {
            int s = listOf(x, MAX, MIN, 0);
            passes(x);
            dueRange(x, near(x, s, 1, MIN), MIN);
            dueRange(x, near(x, s, 1, MAX), MAX);
            dueRange(x, x.source(TURNED, s, 0, 0, 0, MIN), 0, MIN, MAX);
            dueRange(x, x.source(PASS, s, 0, 0, 0, MAX), MAX, MIN, 0);
        });
        edge(11, "a of 7, a FILTER,", x -> {
            x.list();
            passes(x);
            due(NONE, x.source(PASS, 0, 0, 1, 1, 0));
            due(NONE, x.source(PASS, 0, 0, -1, 1, 0));
            for (int sort : new int[] {JOIN, MEET, LESS, TURNED, NEAR, PASS, EVERY}) {
                due(x.told(1), x.source(sort, 0, 0, sort == PASS ? 0 : LEAST, 1, 0));
            }
        });
        edge(11, "of 9, a SHELF):", x -> {
            due(0, itemsOf(x, 0));
            due(1, itemsOf(x, 5));
            due(BAD, itemsOf(x, 6));
            due(BAD, itemsOf(x, -1));
        });
        edge(11, "its number.", x -> {
            due(0, x.list());
            due(BAD, x.source(1, 0, 0, 0, 0, 0));
            for (int s = 1; s < 20; s++) {
                due(s, turned(x, 0));
            }
        });
        edge(11, "BAD: sort,", x -> {
            x.list();
            for (int sort : new int[] {LEAST, -1, 0, 1, 10, MOST}) {
                due(BAD, x.source(sort, 0, 0, 0, 1, 0));
            }
            due(1, x.told(1));
        });
        edge(11, "n,", x -> {
            x.list();
            for (int n : new int[] {LEAST, -1, 201, MOST}) {
                due(BAD, near(x, 0, n, 0));
                due(BAD, every(x, 0, n));
            }
            due(BAD, every(x, 0, 0));
            due(1, near(x, 0, 0, 0));
            due(2, near(x, 0, 200, 0));
            due(3, every(x, 0, 1));
            due(4, every(x, 0, 200));
        });
        edge(11, "SHELF;", x -> {
            for (int a : new int[] {LEAST, -1, 6, MOST}) {
                due(BAD, itemsOf(x, a));
            }
            due(0, x.told(1));
        });
        promise11None();
        promise11Full();
    }

    private static void promise11None() {
        edge(11, "NONE: s,", x -> {
            x.list();
            passes(x);
            for (int none : new int[] {LEAST, -1, 1, 20, MOST}) {
                for (int sort = JOIN; sort <= EVERY; sort++) {
                    due(NONE, x.source(sort, none, 0, 0, 1, 0));
                }
            }
            due(1, x.told(1));
        });
        edge(11, "t,", x -> {
            x.list();
            for (int none : new int[] {LEAST, -1, 1, 20, MOST}) {
                for (int sort = JOIN; sort <= LESS; sort++) {
                    due(NONE, x.source(sort, 0, none, 0, 1, 0));
                }
            }
            due(1, x.told(1));
        });
        edge(11, "a FILTER;", x -> {
            x.list();
            due(NONE, pass(x, 0, 0));
            passes(x);
            for (int none : new int[] {LEAST, -1, 1, 20, MOST}) {
                due(NONE, pass(x, 0, none));
            }
            due(1, pass(x, 0, 0));
        });
    }

    private static void promise11Full() {
        edge(11, "FULL: SOURCES,", x -> {
            passes(x);
            fillSources(x);
            for (int sort = JOIN; sort <= SHELF; sort++) {
                due(FULL, x.source(sort, 0, 0, 0, 1, 0));
            }
            due(20, x.told(1));
        });
        edge(11, "or too many in one another.", x -> {
            passes(x);
            int sixth = turnedOften(x, listOf(x, 1, 2), 5);
            for (int sort = JOIN; sort <= EVERY; sort++) {
                due(FULL, x.source(sort, sixth, 0, 0, 1, 0));
            }
            for (int sort = JOIN; sort <= LESS; sort++) {
                due(FULL, x.source(sort, 0, sixth, 0, 1, 0));
            }
            due(6, x.told(1));
            for (int sort = JOIN; sort <= SHELF; sort++) {
                due(sort + 4, x.source(sort, sixth - 1, sixth - 1, 0, 1, 0));
            }
        });
    }

    private static void promise12() {
        promiseSection(12, "range");
        edge(12, "A RANGE is reckoned, of a SOURCE: 1.", x -> {
            dueRange(x, x.list());
            dueRange(x, upTo(x, 2), 1, 2);
            dueRange(x, listOf(x, 4), 4);
            dueRange(x, x.span(1, 0, 1));
        });
        edge(12, "NONE;", x -> {
            due(NONE, x.range(0));
            dueRange(x, upTo(x, 2), 1, 2);
            for (int s : new int[] {LEAST, -1, 1, 20, MOST}) {
                due(NONE, x.range(s));
            }
            dueNumbers(x, 1, 2);
        });
        edge(12, "LARGE;", x -> {
            int small = upTo(x, 200), large = upTo(x, 201), none = x.list();
            due(1, x.range(join(x, small, none)));
            due(LARGE, x.range(join(x, large, none)));
            due(1, x.range(large));
        });
        edge(12, "FAILED", x -> {
            int s = itemsOf(x, 0);
            due(BY_NULL, x.range(s));
            x.shelf(0, A_POINT, 0);
            due(BY_CAST, x.range(s));
            due(WILD, x.range(failing(x, 21)));
            x.shelf(0, LONGS, 0);
            due(1, x.range(s));
        });
        edge(12, "(the latest RANGE stays;", x -> {
            int large = join(x, upTo(x, 201), upTo(x, 1)), failed = itemsOf(x, 0), wild = failing(x, 21);
            dueRange(x, upTo(x, 2), 1, 2);
            for (int s : new int[] {large, failed, wild}) {
                due(x.range(s) < 0);
                dueNumbers(x, 1, 2);
                due(1, x.told(3));
            }
            dueRange(x, listOf(x, 8, 9), 8, 9);
            for (int s : new int[] {large, failed, wild}) {
                due(x.range(s) < 0);
                dueNumbers(x, 8, 9);
                due(0, x.told(3));
            }
        });
        edge(12, "who was BARRED,", x -> {
            due(WILD, x.range(failing(x, 21)));
            due(20, x.barred());
            dueBarred(x, 19, 20, 6, 0);
            due(BY_NULL, x.range(join(x, failing(x, 1), itemsOf(x, 0))));
            due(1, x.barred());
            dueBarred(x, 0, 1, 6, 1);
            due(BY_NULL, x.range(itemsOf(x, 0)));
            due(0, x.barred());
        });
        edge(12, "COUNTED", x -> {
            int f = counted(x, fails(x));
            due(WILD, x.range(pass(x, upTo(x, 30), f)));
            due(21, x.asked(f));
            due(LARGE, x.range(join(x, pass(x, upTo(x, 2), f), upTo(x, 201))));
            due(23, x.asked(f));
        });
        edge(12, "and put into BOXES, stands).", x -> {
            int f = both(x, intoBox(x, 2, 0), fails(x));
            due(WILD, x.range(pass(x, x.span(-1, 30, 1), f)));
            due(A_SHELL, x.box(2, 0));
        });
    }

    private static void promise13() {
        promiseSection(13, "size");
        edge(13, "How many the RANGE has", x -> {
            duePlainSize(x, 0, x.list());
            duePlainSize(x, 1, listOf(x, 4, 4));
            duePlainSize(x, 200, near(x, upTo(x, 200), 200, 0));
            duePlainSize(x, 0, x.span(1, 0, 1));
            duePlainSize(x, MAX, x.span(1, MAX, 1));
        });
        edge(13, "(0 without one).", x -> {
            due(0, x.size());
            upTo(x, 3);
            x.range(1);
            due(0, x.size());
        });
    }

    private static void promise14() {
        promiseSection(14, "at");
        edge(14, "NUMBER k of it.", x -> {
            x.range(x.span(1, MAX, 1));
            due(1, x.at(0));
            due(MAX, x.at(MAX - 1));
            due(NO_INT + 1, x.at(NO_INT));
            x.range(turned(x, 0));
            due(MAX, x.at(0));
            due(1, x.at(MAX - 1));
            x.range(listOf(x, MIN, MIN, MAX));
            due(MIN, x.at(0));
            due(MAX, x.at(1));
        });
        edge(14, "IndexOutOfBoundsException: there is none such.", x -> {
            dueNoneAt(x, 0);
            x.range(x.list());
            dueNoneAt(x, 0);
            x.range(listOf(x, 5, 5));
            dueNoneAt(x, 1);
            x.range(upTo(x, 3));
            dueNoneAt(x, 3);
            x.range(x.span(1, MAX, 1));
            dueNoneAt(x, MAX);
            x.range(near(x, upTo(x, 200), 200, 0));
            dueNoneAt(x, 200);
        });
    }

    private static void promise15() {
        promiseSection(15, "place");
        edge(15, "The number of a NUMBER in it;", x -> {
            x.range(x.span(MIN, MAX, 3));
            due(0, x.place(MIN));
            due(6148914691236517205L, x.place(MAX));
            x.range(turned(x, 0));
            due(0, x.place(MAX));
            due(6148914691236517205L, x.place(MIN));
            x.range(every(x, 1, 200));
            due(1, x.place(MAX - 600));
            x.range(listOf(x, MAX, MAX, MIN));
            due(1, x.place(MIN));
        });
        edge(15, "-1: it is not in it.", x -> {
            dueNotIn(x, 0, MIN, MAX);
            x.range(x.list());
            dueNotIn(x, 0, MIN, MAX);
            x.range(x.span(1, 0, 1));
            dueNotIn(x, 0, 1);
            int s = x.span(10, 20, 5);
            x.range(s);
            dueNotIn(x, 9, 11, 5, 25, 14, 16, MIN, MAX, NO_INT + 10, -10);
            x.range(turned(x, s));
            dueNotIn(x, 9, 11, 5, 25, 14, 16, MIN, MAX, NO_INT + 10, -10);
            x.range(x.span(5, 5, 1));
            dueNotIn(x, 4, 6);
            x.range(listOf(x, 5, 7));
            dueNotIn(x, 6, 0, NO_INT + 5);
        });
        also(15, "where a stride of 64 bits would wrap around", x -> {
            int s = x.span(MIN, MAX, MAX);
            x.range(every(x, s, 2));
            dueNotIn(x, -1, MAX, 0, MIN + 1);
            x.range(turned(x, every(x, s, 2)));
            dueNotIn(x, -1, MAX, 0, MIN + 1);
            x.range(every(x, x.span(0, 100, NO_INT), 200));
            dueNotIn(x, 1, 200 * NO_INT);
        });
        also(15, "of a stride as far as from the least long to the greatest", x -> {
            int third = every(x, x.span(MIN, MAX, 6148914691236517205L), 3);
            dueRange(x, third, MIN, MAX);
            dueNotIn(x, 0, -1, MIN + 1, MAX - 1);
            dueRange(x, turned(x, third), MAX, MIN);
            dueNotIn(x, 0, -1, MIN + 1, MAX - 1);
        });
    }

    private static void promise16() {
        promiseSection(16, "draw");
        edge(16, "An even draw: the NUMBER at n, without sign,", x -> {
            x.range(upTo(x, 10));
            due(6, x.draw(-1));
            due(9, x.draw(MIN));
            due(8, x.draw(MAX));
            x.range(x.span(0, MAX - 1, 1));
            due(1, x.draw(-1));
            due(1, x.draw(MIN));
            due(0, x.draw(-2));
            due(0, x.draw(MAX));
            due(MAX - 1, x.draw(MAX - 1));
        });
        edge(16, "modulo how many it has.", x -> {
            x.range(listOf(x, 7, 8, 7));
            due(7, x.draw(0));
            due(8, x.draw(1));
            due(7, x.draw(2));
            due(8, x.draw(-1));
            x.range(listOf(x, MIN));
            due(MIN, x.draw(0));
            due(MIN, x.draw(-1));
        });
        edge(16, "IndexOutOfBoundsException: it has none.", x -> {
            dueNoDraw(x);
            x.range(x.list());
            dueNoDraw(x);
            x.range(x.span(1, 0, 1));
            dueNoDraw(x);
            x.range(pass(x, upTo(x, 3), stops(x)));
            dueNoDraw(x);
        });
    }

    private static void dueNoneAt(CandidateRanges x, long first) {
        for (long k : new long[] {first, first + 1, MAX, -1, MIN, first + NO_INT}) {
            if (k < 0 || k >= first) {
                dueThrow(x, y -> y.at(k));
            }
        }
    }

    private static void dueNotIn(CandidateRanges x, long... numbers) {
        for (long number : numbers) {
            due(-1, x.place(number));
        }
    }

    private static void dueNoDraw(CandidateRanges x) {
        for (long n : new long[] {MIN, -1, 0, 1, MAX}) {
            dueThrow(x, y -> y.draw(n));
        }
    }

    private static void promise17() {
        promiseSection(17, "barred");
        edge(17, "How many were BARRED by the latest range()", x -> {
            due(0, x.barred());
            x.range(failing(x, 20));
            due(20, x.barred());
            x.ask(0, 0);
            due(20, x.barred());
            x.range(failing(x, 1));
            due(1, x.barred());
            x.range(failing(x, 21));
            due(20, x.barred());
            x.range(upTo(x, 3));
            due(0, x.barred());
            x.range(failing(x, 1));
            x.range(x.list());
            due(0, x.barred());
        });
        also(17, "LARGE and FAILED ones are the latest, too", x -> {
            int barring = failing(x, 2), large = near(x, upTo(x, 201), 0, 0), failed = itemsOf(x, 0);
            x.range(barring);
            due(LARGE, x.range(large));
            due(0, x.barred());
            x.range(barring);
            due(BY_NULL, x.range(failed));
            due(0, x.barred());
        });
        edge(17, "that was not NONE.", x -> {
            x.range(failing(x, 2));
            due(NONE, x.range(-1));
            due(NONE, x.range(20));
            due(2, x.barred());
            due(6, x.bar(1, 0));
            due(2, x.barredAt(1));
        });
    }

    private static void promise18() {
        promiseSection(18, "bar");
        edge(18, "Of the i-th of these (i 0 ..):", x -> {
            int f = room(x, 0);
            x.range(pass(x, listOf(x, 13, 5, -1), f));
            dueBarred(x, 0, 13, 7, f);
            dueBarred(x, 1, -1, 3, f);
            x.range(failing(x, 20));
            dueBarred(x, 19, 20, 6, f + 1);
        });
        edge(18, "what = 0 the FAILURE,", x -> {
            x.range(pass(x, listOf(x, 13, -1), room(x, 0)));
            due(7, x.bar(0, 0));
            due(3, x.bar(1, 0));
        });
        edge(18, "1 the FILTER.", x -> {
            int first = own(x, 1), second = own(x, 2);
            x.range(pass(x, upTo(x, 2), both(x, first, second)));
            due(first, x.bar(0, 1));
            due(second, x.bar(1, 1));
        });
        edge(18, "NONE;", x -> {
            due(NONE, x.bar(0, 0));
            x.range(failing(x, 2));
            for (int i : new int[] {LEAST, -1, 2, 20, MOST}) {
                due(NONE, x.bar(i, 0));
                due(NONE, x.bar(i, 1));
            }
            x.range(failing(x, 20));
            due(NONE, x.bar(20, 0));
            x.range(x.list());
            due(NONE, x.bar(0, 0));
        });
        edge(18, "BAD.", x -> {
            x.range(failing(x, 1));
            for (int what : new int[] {LEAST, -1, 2, MOST}) {
                due(BAD, x.bar(0, what));
            }
        });
    }

    private static void promise19() {
        promiseSection(19, "barredAt");
        edge(19, "Its number.", x -> {
            x.range(pass(x, listOf(x, MAX, MIN), fails(x)));
            due(MAX, x.barredAt(0));
            due(MIN, x.barredAt(1));
            x.range(failing(x, 20));
            due(20, x.barredAt(19));
        });
        edge(19, "IndexOutOfBoundsException: there is none such.", x -> {
            dueThrow(x, y -> y.barredAt(0));
            x.range(failing(x, 2));
            for (int i : new int[] {LEAST, -1, 2, 20, MOST}) {
                dueThrow(x, y -> y.barredAt(i));
            }
            x.range(failing(x, 20));
            dueThrow(x, y -> y.barredAt(20));
            x.range(x.list());
            dueThrow(x, y -> y.barredAt(0));
        });
    }

    private static void promise20() {
        promiseSection(20, "distance");
        edge(20, "How far two NUMBERS are from one another", x -> {
            due(0, x.distance(0, 0));
            due(0, x.distance(MIN, MIN));
            due(3, x.distance(-1, 2));
            due(3, x.distance(2, -1));
            due(MAX, x.distance(0, MAX));
            due(MAX, x.distance(-1, MIN));
        });
        edge(20, "(64 bits, without sign).", x -> {
            due(-1, x.distance(MIN, MAX));
            due(-1, x.distance(MAX, MIN));
            due(MIN, x.distance(MIN, 0));
            due(MIN, x.distance(-1, MAX));
            due(MIN + 1, x.distance(1, MIN));
        });
    }

    private static void promise21() {
        promiseSection(21, "told");
        edge(21, "What = 0 FILTERS,", x -> {
            due(0, x.told(0));
            below(x, 0);
            x.filter(13, 0, 0, 0);
            due(1, x.told(0));
            fillFilters(x);
            below(x, 0);
            due(20, x.told(0));
        });
        edge(21, "1 SOURCES,", x -> {
            due(0, x.told(1));
            x.list();
            x.span(0, 0, 0);
            turned(x, 1);
            due(1, x.told(1));
            fillSources(x);
            x.list();
            due(20, x.told(1));
        });
        edge(21, "2 FAILURES of the latest ask(), range()", x -> {
            int fail = fails(x), met = orElse(x, fail, orElse(x, fail, passes(x)));
            due(0, x.told(2));
            x.ask(met, 0);
            due(2, x.told(2));
            x.ask(passes(x), 0);
            due(0, x.told(2));
            x.range(failing(x, 3));
            due(3, x.told(2));
            x.item(0, 0, 0);
            due(3, x.told(2));
            x.range(upTo(x, 1));
            due(0, x.told(2));
            x.range(itemsOf(x, 0));
            due(1, x.told(2));
            x.range(near(x, upTo(x, 201), 0, 0));
            due(0, x.told(2));
        });
        edge(21, "(20 at most are counted),", x -> {
            int sixteen = sixteenFailures(x);
            x.range(failing(x, 20));
            due(20, x.told(2));
            x.range(failing(x, 21));
            due(20, x.told(2));
            x.range(failing(x, 200));
            due(20, x.told(2));
            due(WILD, x.ask(orElse(x, sixteen, sixteen), 3));
            due(20, x.told(2));
        });
        edge(21, "3 whether the RANGE is PLAIN (1, 0).", x -> {
            due(0, x.told(3));
            int plain = upTo(x, 3);
            due(0, x.told(3));
            duePlain(x, 1, plain);
            duePlain(x, 0, x.list());
            duePlain(x, 1, turned(x, plain));
            due(NONE, x.range(-1));
            due(1, x.told(3));
            due(BY_NULL, x.range(itemsOf(x, 0)));
            due(1, x.told(3));
        });
        edge(21, "BAD.", x -> {
            for (int what : new int[] {LEAST, -1, 4, MOST}) {
                due(BAD, x.told(what));
            }
        });
    }

    // The document beside the words that were quoted.

    private static void dueWholeDocument() throws IOException {
        if (!Files.exists(DOCUMENT)) {
            System.out.println("EdgeTests: no " + DOCUMENT + ", the quoted words are not laid beside it");
            return;
        }
        promise = NO_PROMISE;
        Map<String, String> document = sectionsOf(Files.readString(DOCUMENT));
        for (Map.Entry<String, StringBuilder> quoted : QUOTED.entrySet()) {
            section = quoted.getKey();
            String want = document.getOrDefault(section, ""), got = quoted.getValue().toString().strip();
            if (!got.equals(want)) {
                int same = 0;
                while (same < got.length() && same < want.length() && got.charAt(same) == want.charAt(same)) {
                    same++;
                }
                String rest = "it says '.." + want.substring(same) + "', quoted is '.." + got.substring(same) + "'";
                fault("the whole section", rest);
            }
        }
        for (String heading : document.keySet()) {
            if (!QUOTED.containsKey(heading) && !heading.equals("Not promised")) {
                fault(heading, "this section is not quoted");
            }
        }
    }

    /** Each section's words under its heading; those on refusals, which have no heading, under "Refusals". */
    private static Map<String, String> sectionsOf(String document) {
        Map<String, String> sections = new LinkedHashMap<>();
        String[] parts = document.replaceAll("======== \\d+ ", "").replaceAll("(?m)^```.*$", "").split("(?m)^## ");
        for (int i = 1; i < parts.length; i++) {
            String heading = parts[i].lines().findFirst().orElse("");
            String body = parts[i].substring(heading.length()).replaceFirst("(?s)^\\s*`[^`]*`: ", "");
            int refusals = body.indexOf("Refusals are answers below 0");
            if (refusals >= 0) {
                sections.put("Refusals", plainWords(body.substring(refusals)));
                body = body.substring(0, refusals);
            }
            sections.put(heading, plainWords(body));
        }
        return sections;
    }

    private static String plainWords(String text) {
        return text.strip().replaceAll("\\s+", " ");
    }

    private static void dueAllPromises() {
        for (int number = 1; number <= PROMISES; number++) {
            promise = number;
            if (!NAMED.contains(number)) {
                fault("the whole walk", "no test names this promise");
            }
        }
    }

    public static void main(String[] args) throws IOException {
        whatItIs();
        thePublicFace();
        termsOfThings();
        termsOfFailures();
        termsOfWild();
        termsOfFilters();
        termsOfItemAndRoom();
        termsOfBox();
        termsOfMadeFilters();
        termsOfSpansAndLists();
        termsOfJoinMeetLess();
        termsOfTurnedAndNear();
        termsOfPass();
        termsOfEveryAndShelf();
        termsOfPlain();
        termsOfLarge();
        refusals();
        promise1();
        promise2();
        promise3();
        promise4();
        promise5();
        promise6();
        promise7();
        promise8();
        promise9();
        promise10();
        promise11();
        promise12();
        promise13();
        promise14();
        promise15();
        promise16();
        promise17();
        promise18();
        promise19();
        promise20();
        promise21();
        dueAllPromises();
        dueWholeDocument();
        System.out.println("EdgeTests: " + tests + " tests, " + checks + " checks, " + wrong + " wrong");
        if (wrong != 0) {
            System.exit(1);
        }
    }
}
