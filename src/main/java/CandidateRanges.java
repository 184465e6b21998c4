import java.util.Arrays;

/**
 * Sources of candidates, filters that candidates are asked by, and the range that was reckoned last.
 *
 * <p>A FAILURE is an answer here (FAILED less its number), never an exception: so it can be handed up
 * through filters in filters, counted, and met, without making an object for each.
 */
public final class CandidateRanges {
    public static final int NONE = -1, BAD = -2, FULL = -3, LARGE = -4;

    private static final int FAILED = -10;
    private static final int BY_NULL = 1, BY_INDEX = 2, BY_SIZE = 3, BY_STORE = 4;
    private static final int BY_CAST = 5, BY_DIVIDE = 6, BY_OWN = 7, WILD = 8;

    private static final int SHELVES = 6, BOXES = 3, THINGS = 3, ROW = 12;
    private static final int MOST_FILTERS = 20, MOST_SOURCES = 20, DEEPEST = 6;
    private static final int MOST_FAILURES = 20, MOST_GATHERED = 200;
    private static final long HIGHEST_BIT = 1L << 63;

    private final Shelf[] shelves = new Shelf[SHELVES];
    private final Box[] boxes = new Box[BOXES];
    private final Filter[] filters = new Filter[MOST_FILTERS];
    private final Source[] sources = new Source[MOST_SOURCES];
    private int filterCount;
    private int sourceCount;
    private final Tally tally = new Tally();
    private final Range latest = new Range();

    /** Each level of sources leaves at most MOST_GATHERED numbers standing while the next one is gathered. */
    private final long[] pool = new long[DEEPEST * MOST_GATHERED];

    public CandidateRanges() {
        for (int k = 0; k < SHELVES; k++) {
            shelves[k] = new Shelf();
        }
        for (int k = 0; k < BOXES; k++) {
            boxes[k] = new Box(k);
        }
    }

    public int shelf(int k, int kind, int n) {
        Shelf held = shelfAt(k);
        if (held == null) {
            return NONE;
        }
        if (kind < Shelf.NOTHING || kind > Shelf.POINT) {
            return BAD;
        }
        boolean row = kind == Shelf.LONGS || kind == Shelf.INTS;
        if (row && (n < 0 || n > ROW)) {
            return BAD;
        }
        held.hold(kind, n);
        return 1;
    }

    public int item(int k, int i, long v) {
        Shelf held = shelfAt(k);
        if (held == null) {
            return NONE;
        }
        int failure = held.rowFailure();
        if (failure == 0 && !held.hasItem(i)) {
            failure = BY_INDEX;
        }
        if (failure != 0) {
            return FAILED - failure;
        }
        held.setItem(i, v);
        return 1;
    }

    public int box(int k, int i) {
        Box held = boxAt(k);
        if (held == null || i < 0 || i >= THINGS) {
            return NONE;
        }
        return held.things[i];
    }

    public int filter(int kind, int a, int b, long v) {
        if (kind < Filter.BELOW || kind > Filter.POINT) {
            return BAD;
        }
        if (kind >= Filter.NOT && kind <= Filter.COUNTED) {
            return filterOfFilters(kind, a, b);
        }
        if (kind == Filter.ITEM || kind == Filter.POINT) {
            return filterOfShelf(kind, a, v);
        }
        if (kind == Filter.BOX) {
            return filterOfBox(a, v);
        }
        return keepFilter(new NumberFilter(filterCount, kind, a, v));
    }

    public int ask(int f, long c) {
        Filter asked = filterAt(f);
        if (asked == null) {
            return NONE;
        }
        tally.beginAsk();
        return asked.judge(c, tally);
    }

    public int asked(int f) {
        Filter filter = filterAt(f);
        return filter == null ? NONE : filter.timesAsked();
    }

    public int span(long low, long high, long step) {
        if (step < 1) {
            return BAD;
        }
        if (low > high) {
            return keepSource(new Source(new Stretch(low, step, false, 0)));
        }
        // The distance may need all 64 bits, so it is taken, and divided, without sign.
        long count = unsignedQuotient(high - low, step) + 1;
        // From 2^63 on the count has wrapped around to below 0, and 2^64 to 0.
        if (count < 1) {
            return FULL;
        }
        return keepSource(new Source(new Stretch(low, step, false, count)));
    }

    public int list() {
        // A LIST keeps its numbers on a shelf of its own, which no call can empty.
        Shelf own = new Shelf();
        own.hold(Shelf.LONGS, 0);
        return keepSource(new Source(Source.LIST, null, null, null, own, 0, 0));
    }

    public int add(int s, long v) {
        Source source = sourceAt(s);
        if (source == null || source.sort != Source.LIST || source.shelf == null) {
            return NONE;
        }
        return source.shelf.append(v) ? source.shelf.count : FULL;
    }

    public int source(int sort, int s, int t, int a, int n, long v) {
        if (sort < Source.JOIN || sort > Source.SHELF || !countFits(sort, n)) {
            return BAD;
        }
        if (sort == Source.SHELF) {
            return sourceOfShelf(a);
        }
        Source first = sourceAt(s);
        Source second = sort <= Source.LESS ? sourceAt(t) : null;
        Filter filter = sort == Source.PASS ? filterAt(a) : null;
        boolean lacksSecond = sort <= Source.LESS && second == null;
        boolean lacksFilter = sort == Source.PASS && filter == null;
        if (first == null || lacksSecond || lacksFilter) {
            return NONE;
        }
        return keepSource(new Source(sort, first, second, filter, null, n, v));
    }

    public int range(int s) {
        Source source = sourceAt(s);
        if (source == null) {
            return NONE;
        }
        tally.beginRange();
        if (source.stretch != null) {
            latest.becomePlain(source.stretch);
            return 1;
        }
        int many = source.gather(pool, 0, tally);
        if (many < 0) {
            return many;
        }
        latest.becomeGathered(pool, many);
        return 1;
    }

    public long size() {
        return latest.many();
    }

    public long at(long k) throws IndexOutOfBoundsException {
        if (k < 0 || k >= latest.many()) {
            throw new IndexOutOfBoundsException("the range has no such number");
        }
        return latest.numberAt(k);
    }

    public long place(long v) {
        return latest.indexOf(v);
    }

    public long draw(long n) throws IndexOutOfBoundsException {
        long many = latest.many();
        if (many <= 0) {
            throw new IndexOutOfBoundsException("the range has no numbers");
        }
        return latest.numberAt(unsignedRest(n, many));
    }

    public int barred() {
        return tally.barred;
    }

    public int bar(int i, int what) {
        if (!tally.hasBarred(i)) {
            return NONE;
        }
        switch (what) {
            case 0: return tally.barredBy[i];
            case 1: return tally.barredIn[i];
            default: return BAD;
        }
    }

    public long barredAt(int i) throws IndexOutOfBoundsException {
        if (!tally.hasBarred(i)) {
            throw new IndexOutOfBoundsException("no such number was barred");
        }
        return tally.barredNumbers[i];
    }

    public long distance(long a, long b) {
        return gap(a, b);
    }

    public int told(int what) {
        switch (what) {
            case 0: return filterCount;
            case 1: return sourceCount;
            case 2: return tally.failures;
            case 3: return latest.stretch == null ? 0 : 1;
            default: return BAD;
        }
    }

    private Shelf shelfAt(int k) {
        return k < 0 || k >= SHELVES ? null : shelves[k];
    }

    private Box boxAt(int k) {
        return k < 0 || k >= BOXES ? null : boxes[k];
    }

    private Filter filterAt(int f) {
        return f < 0 || f >= filterCount ? null : filters[f];
    }

    private Source sourceAt(int s) {
        return s < 0 || s >= sourceCount ? null : sources[s];
    }

    private int filterOfFilters(int kind, int a, int b) {
        boolean two = kind == Filter.BOTH || kind == Filter.EITHER || kind == Filter.ELSE;
        Filter first = filterAt(a);
        Filter second = two ? filterAt(b) : null;
        if (first == null || two && second == null) {
            return NONE;
        }
        return keepFilter(new MadeFilter(filterCount, kind, first, second));
    }

    private int filterOfShelf(int kind, int a, long v) {
        Shelf held = shelfAt(a);
        if (held == null) {
            return BAD;
        }
        int wanted = kind == Filter.ITEM ? Shelf.LONGS : Shelf.POINT;
        return keepFilter(new ShelfFilter(filterCount, held, wanted, v));
    }

    private int filterOfBox(int a, long v) {
        Box held = boxAt(a);
        if (held == null) {
            return BAD;
        }
        return keepFilter(new BoxFilter(filterCount, held, (int) Math.abs(v % THINGS)));
    }

    private int keepFilter(Filter made) {
        if (filterCount >= MOST_FILTERS || made.depth > DEEPEST) {
            return FULL;
        }
        filters[filterCount] = made;
        return filterCount++;
    }

    private static boolean countFits(int sort, int n) {
        if (sort == Source.NEAR) {
            return n >= 0 && n <= MOST_GATHERED;
        }
        return sort != Source.EVERY || n >= 1 && n <= MOST_GATHERED;
    }

    private int sourceOfShelf(int a) {
        Shelf held = shelfAt(a);
        if (held == null) {
            return BAD;
        }
        return keepSource(new Source(Source.SHELF, null, null, null, held, 0, 0));
    }

    private int keepSource(Source made) {
        if (sourceCount >= MOST_SOURCES || made.depth > DEEPEST) {
            return FULL;
        }
        sources[sourceCount] = made;
        return sourceCount++;
    }

    private static long gap(long a, long b) {
        return a >= b ? a - b : b - a;
    }

    /** Turning the highest bit over makes the order without sign the order with sign. */
    private static boolean unsignedBelow(long a, long b) {
        return (a ^ HIGHEST_BIT) < (b ^ HIGHEST_BIT);
    }

    /** How often the divisor goes into the number, both without sign; 0 for a divisor of 0. */
    private static long unsignedQuotient(long number, long divisor) {
        if (divisor == 0 || unsignedBelow(number, divisor)) {
            return 0;
        }
        if (divisor < 0) {
            // From 2^63 on it goes into no number of 64 bits twice.
            return 1;
        }
        // Half the number has no 64th bit, so / divides it exactly; doubled again, that is at most 1 too low.
        long low = ((number >>> 1) / divisor) << 1;
        return unsignedBelow(number - low * divisor, divisor) ? low : low + 1;
    }

    private static long unsignedRest(long number, long divisor) {
        return number - unsignedQuotient(number, divisor) * divisor;
    }

    /** The index of v in row from .. to - 1, or -1. */
    private static int find(long[] row, int from, int to, long v) {
        for (int i = from; i < to && i < row.length; i++) {
            if (row[i] == v) {
                return i;
            }
        }
        return -1;
    }

    /** What a SHELF holds; the row is made once and used for every ROW that comes. */
    private static final class Shelf {
        static final int NOTHING = 0, LONGS = 1, INTS = 2, POINT = 3;

        final long[] items = new long[ROW];
        int kind = NOTHING;
        int count;
        int point;

        void hold(int newKind, int n) {
            kind = newKind;
            count = newKind == LONGS || newKind == INTS ? n : 0;
            point = newKind == POINT ? n : 0;
            Arrays.fill(items, 0L);
        }

        /** The FAILURE of taking what is held for a ROW, of longs or of ints; 0 if it is one. */
        int rowFailure() {
            if (kind == NOTHING) {
                return BY_NULL;
            }
            return kind == POINT ? BY_CAST : 0;
        }

        boolean hasItem(long i) {
            return i >= 0 && i < count && i < ROW;
        }

        void setItem(int i, long v) {
            if (hasItem(i)) {
                items[i] = kind == INTS ? (int) v : v;
            }
        }

        boolean append(long v) {
            if (count < 0 || count >= ROW) {
                return false;
            }
            items[count++] = v;
            return true;
        }
    }

    /** Three things; which ones it takes is told by its number. */
    private static final class Box {
        static final int STONE = 1, GEM = 2, SHELL = 3;
        private static final int OF_STONES = 0, OF_GEMS = 1;

        final int[] things = new int[THINGS];
        private final int number;

        Box(int number) {
            this.number = number;
        }

        /** Answers whether the thing was of a kind that it takes. */
        boolean put(int item, int thing) {
            if (item < 0 || item >= THINGS || !takes(thing)) {
                return false;
            }
            things[item] = thing;
            return true;
        }

        private boolean takes(int thing) {
            switch (number) {
                case OF_STONES: return thing == STONE || thing == GEM;
                case OF_GEMS: return thing == GEM;
                default: return true;
            }
        }
    }

    /** The FAILURES of the latest ask() or range(), and who was BARRED by the latest range(). */
    private static final class Tally {
        final long[] barredNumbers = new long[MOST_FAILURES];
        final int[] barredBy = new int[MOST_FAILURES];
        final int[] barredIn = new int[MOST_FAILURES];
        int barred;
        int failures;
        private int arose = NONE;

        void beginAsk() {
            failures = 0;
        }

        void beginRange() {
            failures = 0;
            barred = 0;
        }

        /** A FAILURE comes up in a FILTER (NONE: in a SOURCE); answers what is handed up for it. */
        int fail(int failure, int filter) {
            if (failures >= MOST_FAILURES) {
                return FAILED - WILD;
            }
            failures++;
            arose = filter;
            return FAILED - failure;
        }

        /** A failed verdict is always of the FAILURE that came last, so that one's FILTER is noted. */
        void barByLatest(long number, int verdict) {
            if (barred < MOST_FAILURES) {
                barredNumbers[barred] = number;
                barredBy[barred] = FAILED - verdict;
                barredIn[barred] = arose;
                barred++;
            }
        }

        boolean hasBarred(int i) {
            return i >= 0 && i < barred && i < MOST_FAILURES;
        }

        static boolean canBeMet(int verdict) {
            return verdict < 0 && verdict != FAILED - WILD;
        }
    }

    /** A filter's verdict on a number is 1, 0, or what Tally.fail() answered. */
    private abstract static class Filter {
        static final int BELOW = 0, RESTS = 1, SHARES = 2, ITEM = 3, ROOM = 4, BOX = 5;
        static final int NOT = 7, BOTH = 8, EITHER = 9, ELSE = 10, COUNTED = 11, POINT = 12;

        final int number;
        final int depth;

        Filter(int number, int depth) {
            this.number = number;
            this.depth = depth;
        }

        abstract int judge(long c, Tally tally);

        int timesAsked() {
            return 0;
        }

        static int verdict(boolean passes) {
            return passes ? 1 : 0;
        }
    }

    /** BELOW, RESTS, SHARES, ROOM, OWN: they look at numbers alone. */
    private static final class NumberFilter extends Filter {
        private final int kind;
        private final int a;
        private final long v;

        NumberFilter(int number, int kind, int a, long v) {
            super(number, 1);
            this.kind = kind;
            this.a = a;
            this.v = v;
        }

        @Override
        int judge(long c, Tally tally) {
            switch (kind) {
                case BELOW: return verdict(c < v);
                case RESTS: return v == 0 ? tally.fail(BY_DIVIDE, number) : verdict(c % v == a);
                case SHARES: return c == 0 ? tally.fail(BY_DIVIDE, number) : verdict(v / c > a);
                case ROOM: return judgeRoom(c, tally);
                default: return c == v ? tally.fail(BY_OWN, number) : 1;
            }
        }

        private int judgeRoom(long c, Tally tally) {
            if (c > ROW) {
                return tally.fail(BY_OWN, number);
            }
            return c < 0 ? tally.fail(BY_SIZE, number) : verdict(c >= v);
        }
    }

    /** ITEM and POINT: they look at what the shelf holds when they are asked. */
    private static final class ShelfFilter extends Filter {
        private final Shelf held;
        private final int wanted;
        private final long v;

        ShelfFilter(int number, Shelf held, int wanted, long v) {
            super(number, 1);
            this.held = held;
            this.wanted = wanted;
            this.v = v;
        }

        @Override
        int judge(long c, Tally tally) {
            if (held.kind == Shelf.NOTHING) {
                return tally.fail(BY_NULL, number);
            }
            if (held.kind != wanted) {
                return tally.fail(BY_CAST, number);
            }
            if (wanted == Shelf.POINT) {
                return verdict(c > held.point);
            }
            if (!held.hasItem(c)) {
                return tally.fail(BY_INDEX, number);
            }
            return verdict(held.items[(int) c] > v);
        }
    }

    private static final class BoxFilter extends Filter {
        private final Box held;
        private final int item;

        BoxFilter(int number, Box held, int item) {
            super(number, 1);
            this.held = held;
            this.item = item;
        }

        @Override
        int judge(long c, Tally tally) {
            return held.put(item, thingFor(c)) ? 1 : tally.fail(BY_STORE, number);
        }

        /** The rest keeps the sign of c: those below 0 are no GEM and no SHELL, but -3, -6, .. rest 0. */
        private static int thingFor(long c) {
            long rest = c % 3;
            if (rest == 0) {
                return Box.GEM;
            }
            return rest == 1 ? Box.SHELL : Box.STONE;
        }
    }

    /** NOT, BOTH, EITHER, ELSE, COUNTED: made of one filter or two; DEEPEST bounds the recursion. */
    private static final class MadeFilter extends Filter {
        private final int kind;
        private final Filter first;
        private final Filter second;
        private int timesAsked;

        MadeFilter(int number, int kind, Filter first, Filter second) {
            super(number, 1 + Math.max(first.depth, second == null ? 0 : second.depth));
            this.kind = kind;
            this.first = first;
            this.second = second;
        }

        @Override
        int judge(long c, Tally tally) {
            timesAsked++;
            int verdict = first.judge(c, tally);
            if (second != null && leavesItToSecond(verdict)) {
                return second.judge(c, tally);
            }
            return kind == NOT && verdict >= 0 ? 1 - verdict : verdict;
        }

        private boolean leavesItToSecond(int verdict) {
            switch (kind) {
                case BOTH: return verdict == 1;
                case EITHER: return verdict == 0;
                default: return Tally.canBeMet(verdict);
            }
        }

        @Override
        int timesAsked() {
            return kind == COUNTED ? timesAsked : 0;
        }
    }

    /** The numbers of a PLAIN source: evenly spaced, told without going through them. */
    private static final class Stretch {
        final long first;
        /** Without sign, and looked at only where there are two numbers or more: there it is not 0. */
        final long stride;
        final boolean down;
        final long count;

        Stretch(long first, long stride, boolean down, long count) {
            this.first = first;
            this.stride = stride;
            this.down = down;
            this.count = count;
        }

        /** k * stride may wrap around, but then the sum wraps back: the number itself is a long. */
        long numberAt(long k) {
            return down ? first - k * stride : first + k * stride;
        }

        long indexOf(long v) {
            if (count < 1 || (down ? v > first : v < first)) {
                return -1;
            }
            if (v == first) {
                return 0;
            }
            long far = gap(first, v);
            if (count == 1 || stride == 0 || unsignedRest(far, stride) != 0) {
                return -1;
            }
            long k = unsignedQuotient(far, stride);
            return k > 0 && k < count ? k : -1;
        }

        Stretch turned() {
            return count < 1 ? this : new Stretch(numberAt(count - 1), stride, !down, count);
        }

        Stretch every(int n) {
            return count < 1 || n < 1 ? this : new Stretch(first, stride * n, down, (count - 1) / n + 1);
        }
    }

    /** A source of any sort; what its sort has not is null or 0. */
    private static final class Source {
        static final int SPAN = 0, LIST = 1, JOIN = 2, MEET = 3, LESS = 4;
        static final int TURNED = 5, NEAR = 6, PASS = 7, EVERY = 8, SHELF = 9;

        final int sort;
        final int depth;
        /** Of PLAIN sources, and of these alone. */
        final Stretch stretch;
        final Shelf shelf;
        private final Source s;
        private final Source t;
        private final Filter filter;
        private final int n;
        private final long v;

        Source(Stretch stretch) {
            this.sort = SPAN;
            this.depth = 1;
            this.stretch = stretch;
            this.shelf = null;
            this.s = null;
            this.t = null;
            this.filter = null;
            this.n = 0;
            this.v = 0;
        }

        Source(int sort, Source s, Source t, Filter filter, Shelf shelf, int n, long v) {
            this.sort = sort;
            this.depth = depthOver(s, t);
            this.stretch = plainOver(sort, s, n);
            this.shelf = shelf;
            this.s = s;
            this.t = t;
            this.filter = filter;
            this.n = n;
            this.v = v;
        }

        private static int depthOver(Source s, Source t) {
            return 1 + Math.max(s == null ? 0 : s.depth, t == null ? 0 : t.depth);
        }

        private static Stretch plainOver(int sort, Source s, int n) {
            if (s == null || s.stretch == null) {
                return null;
            }
            switch (sort) {
                case TURNED: return s.stretch.turned();
                case EVERY: return s.stretch.every(n);
                default: return null;
            }
        }

        /**
         * Writes the numbers into the pool, from an index on: answers how many (MOST_GATHERED at most),
         * or a refusal. What stands in the pool before that index is the callers', and stays.
         */
        int gather(long[] pool, int from, Tally tally) {
            if (from < 0 || from > pool.length - MOST_GATHERED) {
                return LARGE;
            }
            if (stretch != null) {
                return gatherPlain(pool, from);
            }
            if (s == null) {
                return gatherRow(pool, from, tally);
            }
            int many = s.gather(pool, from, tally);
            if (many < 0) {
                return many;
            }
            if (t == null) {
                return keepOfOne(pool, from, from + many, tally);
            }
            int more = t.gather(pool, from + many, tally);
            return more < 0 ? more : keepOfTwo(pool, from, from + many, from + many + more);
        }

        private int gatherPlain(long[] pool, int from) {
            if (stretch.count > MOST_GATHERED) {
                return LARGE;
            }
            int many = (int) stretch.count;
            for (int i = 0; i < many; i++) {
                pool[from + i] = stretch.numberAt(i);
            }
            return many;
        }

        private int gatherRow(long[] pool, int from, Tally tally) {
            if (shelf == null) {
                return 0;
            }
            int failure = shelf.rowFailure();
            if (failure != 0) {
                return tally.fail(failure, NONE);
            }
            for (int i = 0; i < shelf.count; i++) {
                pool[from + i] = shelf.items[i];
            }
            return shelf.count;
        }

        /** Of the numbers of s in from .. to - 1; the kept ones close up from the front. */
        private int keepOfOne(long[] pool, int from, int to, Tally tally) {
            switch (sort) {
                case TURNED:
                    turn(pool, from, to);
                    return to - from;
                case NEAR:
                    sortByNearness(pool, from, to);
                    return Math.min(n, to - from);
                case EVERY:
                    return keepEvery(pool, from, to);
                default:
                    return keepPassing(pool, from, to, tally);
            }
        }

        private static void turn(long[] pool, int from, int to) {
            for (int low = from, high = to - 1; low < high; low++, high--) {
                long kept = pool[low];
                pool[low] = pool[high];
                pool[high] = kept;
            }
        }

        private void sortByNearness(long[] pool, int from, int to) {
            for (int i = from + 1; i < to; i++) {
                long number = pool[i];
                int hole = i;
                while (hole > from && isNearer(number, pool[hole - 1])) {
                    pool[hole] = pool[hole - 1];
                    hole--;
                }
                pool[hole] = number;
            }
        }

        private boolean isNearer(long number, long other) {
            long far = gap(number, v);
            long otherFar = gap(other, v);
            return unsignedBelow(far, otherFar) || far == otherFar && number < other;
        }

        private int keepEvery(long[] pool, int from, int to) {
            int kept = 0;
            for (int i = from; i < to && n > 0; i += n) {
                pool[from + kept] = pool[i];
                kept++;
            }
            return kept;
        }

        private int keepPassing(long[] pool, int from, int to, Tally tally) {
            int kept = 0;
            for (int i = from; i < to && filter != null; i++) {
                int verdict = filter.judge(pool[i], tally);
                if (verdict == 1) {
                    pool[from + kept] = pool[i];
                    kept++;
                } else if (Tally.canBeMet(verdict)) {
                    tally.barByLatest(pool[i], verdict);
                } else if (verdict < 0) {
                    return verdict;
                }
            }
            return kept;
        }

        /** Of the numbers of s in from .. mid - 1 and those of t in mid .. to - 1. */
        private int keepOfTwo(long[] pool, int from, int mid, int to) {
            if (sort == JOIN) {
                return to - from > MOST_GATHERED ? LARGE : to - from;
            }
            int kept = 0;
            for (int i = from; i < mid; i++) {
                boolean inBoth = find(pool, mid, to, pool[i]) >= 0;
                if (inBoth == (sort == MEET)) {
                    pool[from + kept] = pool[i];
                    kept++;
                }
            }
            return kept;
        }
    }

    /** The RANGE reckoned last: a stretch, or each number that was gathered, once. */
    private static final class Range {
        Stretch stretch;
        private final long[] numbers = new long[MOST_GATHERED];
        private int count;

        void becomePlain(Stretch plain) {
            stretch = plain;
            count = 0;
        }

        void becomeGathered(long[] pool, int many) {
            stretch = null;
            count = 0;
            for (int i = 0; i < many && i < pool.length; i++) {
                if (count < MOST_GATHERED && find(numbers, 0, count, pool[i]) < 0) {
                    numbers[count] = pool[i];
                    count++;
                }
            }
        }

        long many() {
            return stretch == null ? count : stretch.count;
        }

        long numberAt(long k) {
            if (stretch != null) {
                return stretch.numberAt(k);
            }
            return k < 0 || k >= count ? 0 : numbers[(int) k];
        }

        long indexOf(long v) {
            return stretch == null ? find(numbers, 0, count, v) : stretch.indexOf(v);
        }
    }
}
