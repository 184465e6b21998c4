import java.math.BigInteger;
import java.util.ArrayList;
import java.util.Collections;
import java.util.Comparator;
import java.util.LinkedHashSet;
import java.util.List;
import java.util.Random;

/**
 * Long random runs of calls beside a plain model. The model is built the other way round: it reckons with
 * BigInteger, lets the machine itself fail (null, index, cast, ..) and hands failures up as exceptions.
 */
public final class ModelTests {
    private static final int RUNS = 9000, CALLS = 512;
    /** One step of a run makes fewer calls than this. */
    private static final int MOST_IN_A_STEP = 10;
    private static final BigInteger MOST = BigInteger.valueOf(Long.MAX_VALUE);

    private static class Stone { }

    private static final class Gem extends Stone { }

    private static final class Shell { }

    private static final class Own extends RuntimeException {
        Own() {
            super(null, null, false, false);
        }
    }

    /** A FAILURE on its way up. */
    private static final class Failed extends RuntimeException {
        final int failure;
        final int filter;

        Failed(int failure, int filter) {
            super(null, null, false, false);
            this.failure = failure;
            this.filter = filter;
        }
    }

    /** WILD or LARGE: ends the call, and no one meets it. */
    private static final class Ended extends Error {
        final int answer;

        Ended(int answer) {
            super(null, null, false, false);
            this.answer = answer;
        }
    }

    private record FilterDef(int kind, int a, int b, long v, int depth) { }

    private record SourceDef(int sort, int s, int t, int a, int n, long v, int depth, List<Long> told, Plain plain) { }

    private record Plain(BigInteger first, BigInteger step, BigInteger count) {
        BigInteger at(BigInteger k) {
            return first.add(step.multiply(k));
        }
    }

    private record Bar(long number, int failure, int filter) { }

    private static final class Model {
        final Object[] shelves = new Object[6];
        final Object[][] boxes = {new Stone[3], new Gem[3], new Object[3]};
        final List<FilterDef> filters = new ArrayList<>();
        final List<SourceDef> sources = new ArrayList<>();
        final int[] asked = new int[20];
        List<Bar> bars = new ArrayList<>();
        int failures = 0;
        Plain plain = null;
        List<Long> gone = new ArrayList<>();

        int shelf(int k, int kind, int n) {
            if (k < 0 || k > 5) return -1;
            if (kind < 0 || kind > 3) return -2;
            if ((kind == 1 || kind == 2) && (n < 0 || n > 12)) return -2;
            shelves[k] = kind == 0 ? null : kind == 1 ? new long[n] : kind == 2 ? new int[n] : Long.valueOf(n);
            return 1;
        }

        int item(int k, int i, long v) {
            if (k < 0 || k > 5) return -1;
            try {
                if (shelves[k] instanceof int[] ints) ints[i] = (int) v;
                else ((long[]) shelves[k])[i] = v;
                return 1;
            } catch (RuntimeException e) {
                return -10 - failureOf(e);
            }
        }

        int box(int k, int i) {
            if (k < 0 || k > 2 || i < 0 || i > 2) return -1;
            Object thing = boxes[k][i];
            return thing == null ? 0 : thing instanceof Gem ? 2 : thing instanceof Stone ? 1 : 3;
        }

        int filter(int kind, int a, int b, long v) {
            if (kind < 0 || kind > 12) return -2;
            if ((kind == 3 || kind == 12) && (a < 0 || a > 5)) return -2;
            if (kind == 5 && (a < 0 || a > 2)) return -2;
            int depth = 1;
            if (kind >= 7 && kind <= 11) {
                if (a < 0 || a >= filters.size()) return -1;
                depth = Math.max(depth, 1 + filters.get(a).depth());
            }
            if (kind >= 8 && kind <= 10) {
                if (b < 0 || b >= filters.size()) return -1;
                depth = Math.max(depth, 1 + filters.get(b).depth());
            }
            if (filters.size() == 20 || depth > 6) return -3;
            filters.add(new FilterDef(kind, a, b, v, depth));
            return filters.size() - 1;
        }

        int ask(int f, long c) {
            if (f < 0 || f >= filters.size()) return -1;
            failures = 0;
            try {
                return passes(f, c) ? 1 : 0;
            } catch (Failed e) {
                return -10 - e.failure;
            } catch (Ended e) {
                return e.answer;
            }
        }

        boolean passes(int f, long c) {
            FilterDef def = filters.get(f);
            switch (def.kind()) {
                case 7: return !passes(def.a(), c);
                case 8: return passes(def.a(), c) && passes(def.b(), c);
                case 9: return passes(def.a(), c) || passes(def.b(), c);
                case 10:
                    try {
                        return passes(def.a(), c);
                    } catch (Failed e) {
                        return passes(def.b(), c);
                    }
                case 11:
                    asked[f]++;
                    return passes(def.a(), c);
                default:
                    try {
                        return passesAlone(def, c);
                    } catch (RuntimeException e) {
                        throw arisen(failureOf(e), f);
                    }
            }
        }

        boolean passesAlone(FilterDef def, long c) {
            switch (def.kind()) {
                case 0: return c < def.v();
                case 1: return c % def.v() == def.a();
                case 2: return def.v() / c > def.a();
                case 3: {
                    long[] row = (long[]) shelves[def.a()];
                    int length = row.length;
                    return row[c == (int) c ? (int) c : length] > def.v();
                }
                case 4:
                    if (c > 12) throw new Own();
                    return new byte[(int) Math.max(c, -1)].length >= def.v();
                case 5: {
                    int rest = (int) (c % 3);
                    boxes[def.a()][(int) Math.abs(def.v() % 3)] = rest == 0 ? new Gem() : rest == 1 ? new Shell() : new Stone();
                    return true;
                }
                case 6:
                    if (c == def.v()) throw new Own();
                    return true;
                default: return c > (Long) shelves[def.a()];
            }
        }

        Failed arisen(int failure, int filter) {
            if (failures == 20) throw new Ended(-18);
            failures++;
            return new Failed(failure, filter);
        }

        static int failureOf(RuntimeException e) {
            if (e instanceof NullPointerException) return 1;
            if (e instanceof IndexOutOfBoundsException) return 2;
            if (e instanceof NegativeArraySizeException) return 3;
            if (e instanceof ArrayStoreException) return 4;
            if (e instanceof ClassCastException) return 5;
            return e instanceof ArithmeticException ? 6 : 7;
        }

        int span(long low, long high, long step) {
            if (step < 1) return -2;
            BigInteger first = BigInteger.valueOf(low), by = BigInteger.valueOf(step), count = BigInteger.ZERO;
            if (low <= high) count = BigInteger.valueOf(high).subtract(first).divide(by).add(BigInteger.ONE);
            if (sources.size() == 20 || count.compareTo(MOST) > 0) return -3;
            return keep(0, -1, -1, 0, 0, 0, 1, new Plain(first, by, count));
        }

        int keep(int sort, int s, int t, int a, int n, long v, int depth, Plain plain) {
            sources.add(new SourceDef(sort, s, t, a, n, v, depth, new ArrayList<>(), plain));
            return sources.size() - 1;
        }

        int list() {
            return sources.size() == 20 ? -3 : keep(1, -1, -1, 0, 0, 0, 1, null);
        }

        int add(int s, long v) {
            if (s < 0 || s >= sources.size() || sources.get(s).sort() != 1) return -1;
            List<Long> told = sources.get(s).told();
            if (told.size() == 12) return -3;
            told.add(v);
            return told.size();
        }

        int source(int sort, int s, int t, int a, int n, long v) {
            if (sort < 2 || sort > 9) return -2;
            if (sort == 6 && (n < 0 || n > 200) || sort == 8 && (n < 1 || n > 200)) return -2;
            if (sort == 9 && (a < 0 || a > 5)) return -2;
            int depth = 1;
            if (sort != 9) {
                if (s < 0 || s >= sources.size()) return -1;
                depth = 1 + sources.get(s).depth();
            }
            if (sort <= 4) {
                if (t < 0 || t >= sources.size()) return -1;
                depth = Math.max(depth, 1 + sources.get(t).depth());
            }
            if (sort == 7 && (a < 0 || a >= filters.size())) return -1;
            if (sources.size() == 20 || depth > 6) return -3;
            Plain plain = sort == 5 || sort == 8 ? plainOver(sort, sources.get(s).plain(), n) : null;
            return keep(sort, s, t, a, n, v, depth, plain);
        }

        static Plain plainOver(int sort, Plain of, int n) {
            if (of == null || of.count().signum() == 0) return of;
            BigInteger last = of.count().subtract(BigInteger.ONE), by = BigInteger.valueOf(n);
            if (sort == 5) return new Plain(of.at(last), of.step().negate(), of.count());
            return new Plain(of.first(), of.step().multiply(by), last.divide(by).add(BigInteger.ONE));
        }

        int range(int s) {
            if (s < 0 || s >= sources.size()) return -1;
            failures = 0;
            bars = new ArrayList<>();
            try {
                Plain found = sources.get(s).plain();
                if (found == null) gone = new ArrayList<>(new LinkedHashSet<>(numbers(s)));
                plain = found;
                return 1;
            } catch (Failed e) {
                return -10 - e.failure;
            } catch (Ended e) {
                return e.answer;
            }
        }

        List<Long> numbers(int s) {
            List<Long> found = sources.get(s).plain() == null ? gathered(sources.get(s)) : plainNumbers(sources.get(s).plain());
            if (found.size() > 200) throw new Ended(-4);
            return found;
        }

        static List<Long> plainNumbers(Plain plain) {
            if (plain.count().compareTo(BigInteger.valueOf(200)) > 0) throw new Ended(-4);
            List<Long> found = new ArrayList<>();
            for (int k = 0; k < plain.count().intValueExact(); k++) {
                found.add(plain.at(BigInteger.valueOf(k)).longValueExact());
            }
            return found;
        }

        List<Long> gathered(SourceDef def) {
            if (def.sort() == 1) return def.told();
            if (def.sort() == 9) return row(shelves[def.a()]);
            List<Long> found = new ArrayList<>(numbers(def.s()));
            List<Long> other = def.sort() <= 4 ? numbers(def.t()) : null;
            switch (def.sort()) {
                case 2: found.addAll(other); return found;
                case 3: found.retainAll(other); return found;
                case 4: found.removeAll(other); return found;
                case 5: Collections.reverse(found); return found;
                case 6:
                    BigInteger middle = BigInteger.valueOf(def.v());
                    Comparator<Long> near = Comparator.comparing(c -> BigInteger.valueOf(c).subtract(middle).abs());
                    found.sort(near.thenComparing(Comparator.naturalOrder()));
                    return found.subList(0, Math.min(def.n(), found.size()));
                case 7: return passing(found, def.a());
                default:
                    List<Long> every = new ArrayList<>();
                    for (int i = 0; i < found.size(); i++) if (i % def.n() == 0) every.add(found.get(i));
                    return every;
            }
        }

        List<Long> row(Object held) {
            List<Long> found = new ArrayList<>();
            try {
                if (held instanceof int[] ints) for (int item : ints) found.add((long) item);
                else for (long item : (long[]) held) found.add(item);
                return found;
            } catch (RuntimeException e) {
                throw arisen(failureOf(e), -1);
            }
        }

        List<Long> passing(List<Long> asked, int filter) {
            List<Long> found = new ArrayList<>();
            for (long c : asked) {
                try {
                    if (passes(filter, c)) found.add(c);
                } catch (Failed e) {
                    bars.add(new Bar(c, e.failure, e.filter));
                }
            }
            return found;
        }

        long size() {
            return plain == null ? gone.size() : plain.count().longValueExact();
        }

        long at(long k) {
            if (k < 0 || k >= size()) throw new IndexOutOfBoundsException();
            return plain == null ? gone.get((int) k) : plain.at(BigInteger.valueOf(k)).longValueExact();
        }

        long place(long v) {
            if (plain == null) return gone.indexOf(v);
            BigInteger[] k = BigInteger.valueOf(v).subtract(plain.first()).divideAndRemainder(plain.step());
            boolean in = k[1].signum() == 0 && k[0].signum() >= 0 && k[0].compareTo(plain.count()) < 0;
            return in ? k[0].longValueExact() : -1;
        }

        long draw(long n) {
            if (size() == 0) throw new IndexOutOfBoundsException();
            BigInteger unsigned = new BigInteger(Long.toUnsignedString(n));
            return at(unsigned.mod(BigInteger.valueOf(size())).longValueExact());
        }

        int bar(int i, int what) {
            if (i < 0 || i >= bars.size()) return -1;
            return what == 0 ? bars.get(i).failure() : what == 1 ? bars.get(i).filter() : -2;
        }

        long barredAt(int i) {
            if (i < 0 || i >= bars.size()) throw new IndexOutOfBoundsException();
            return bars.get(i).number();
        }

        long distance(long a, long b) {
            return BigInteger.valueOf(a).subtract(BigInteger.valueOf(b)).abs().longValue();
        }

        int asked(int f) {
            return f < 0 || f >= filters.size() ? -1 : asked[f];
        }

        int told(int what) {
            switch (what) {
                case 0: return filters.size();
                case 1: return sources.size();
                case 2: return failures;
                case 3: return plain == null ? 0 : 1;
                default: return -2;
            }
        }
    }

    private interface Call {
        long answer();
    }

    private static String answerOf(Call call) {
        try {
            return Long.toString(call.answer());
        } catch (RuntimeException e) {
            return "throws." + e.getClass().getSimpleName();
        }
    }

    /** One run: the calls so far are kept, so that a wrong answer can be told with what led to it. */
    private static final class Run {
        final Random random;
        final CandidateRanges real = new CandidateRanges();
        final Model model = new Model();
        final StringBuilder calls = new StringBuilder();
        final boolean doubles;
        final int[] seenOfAsk;
        final int[] seenOfRange;
        int made = 0;
        boolean wrong = false;

        Run(long seed, int[] seenOfAsk, int[] seenOfRange) {
            random = new Random(seed);
            doubles = random.nextInt(4) == 0;
            this.seenOfAsk = seenOfAsk;
            this.seenOfRange = seenOfRange;
        }

        void same(String call, Call got, Call want) {
            made++;
            String due = answerOf(want), answer = answerOf(got);
            calls.append(call).append(" = ").append(answer).append('\n');
            if (!answer.equals(due) && !wrong) {
                wrong = true;
                System.out.println(calls + "the last is wrong, due is " + due);
            }
        }

        int small(int from, int to) {
            return from + random.nextInt(to - from + 1);
        }

        /** Mostly one of those that are there, now and then beyond them. */
        int one(int of) {
            return random.nextInt(12) == 0 || of == 0 ? small(-1, of) : random.nextInt(of);
        }

        long number() {
            switch (random.nextInt(8)) {
                case 0: return random.nextLong();
                case 1: return Long.MIN_VALUE + random.nextInt(4);
                case 2: return Long.MAX_VALUE - random.nextInt(4);
                case 3: return (1L << random.nextInt(64)) + small(-1, 1);
                default: return small(-4, 14);
            }
        }

        void change() {
            switch (random.nextInt(3)) {
                case 0: {
                    int k = small(-1, 6), kind = small(-1, 4), n = small(-1, 13);
                    same("shelf(" + k + ", " + kind + ", " + n + ")", () -> real.shelf(k, kind, n), () -> model.shelf(k, kind, n));
                    break;
                }
                case 1: {
                    int k = small(-1, 6), i = small(-1, 12);
                    long v = number();
                    same("item(" + k + ", " + i + ", " + v + ")", () -> real.item(k, i, v), () -> model.item(k, i, v));
                    break;
                }
                default: {
                    int s = one(model.sources.size());
                    long v = number();
                    same("add(" + s + ", " + v + ")", () -> real.add(s, v), () -> model.add(s, v));
                }
            }
        }

        void makeFilter() {
            int of = model.filters.size();
            // ELSE of the latest one, twice, doubles its FAILURES: so an ask() comes to WILD.
            boolean doubling = doubles && of > 0 && random.nextInt(4) != 0;
            int kind = doubling ? 10 : small(-1, 13);
            boolean madeOfOthers = kind >= 7 && kind <= 11;
            int a = doubling ? of - 1 : madeOfOthers ? one(of) : small(-1, 6), b = doubling ? of - 1 : one(of);
            long v = random.nextInt(3) == 0 ? 0 : number();
            same("filter(" + kind + ", " + a + ", " + b + ", " + v + ")", () -> real.filter(kind, a, b, v), () -> model.filter(kind, a, b, v));
        }

        void makeSpan() {
            long low = number();
            long high = random.nextInt(3) == 0 ? number() : low + small(-1, 250);
            long step = random.nextInt(3) == 0 ? number() : small(1, 3);
            same("span(" + low + ", " + high + ", " + step + ")", () -> real.span(low, high, step), () -> model.span(low, high, step));
        }

        void makeSource() {
            int of = model.sources.size();
            int sort = small(1, 10), s = one(of), t = one(of), n = random.nextInt(6) == 0 ? small(-1, 202) : small(1, 5);
            int a = sort == 9 ? small(-1, 6) : one(model.filters.size());
            long v = number();
            same("source(" + sort + ", " + s + ", " + t + ", " + a + ", " + n + ", " + v + ")",
                () -> real.source(sort, s, t, a, n, v), () -> model.source(sort, s, t, a, n, v));
        }

        void ask() {
            int f = one(model.filters.size());
            long c = number();
            same("ask(" + f + ", " + c + ")", () -> note(seenOfAsk, real.ask(f, c)), () -> model.ask(f, c));
            same("told(2)", () -> real.told(2), () -> model.told(2));
        }

        void reckon() {
            int s = one(model.sources.size());
            same("range(" + s + ")", () -> note(seenOfRange, real.range(s)), () -> model.range(s));
            same("size()", real::size, model::size);
            same("told(3)", () -> real.told(3), () -> model.told(3));
            same("barred()", real::barred, () -> model.bars.size());
            long last = model.size() - 1;
            for (long k : new long[] {0, last, last + 1, number()}) {
                same("at(" + k + ")", () -> real.at(k), () -> model.at(k));
            }
        }

        /** Counts what was answered, to see that the runs come to all of it. */
        static int note(int[] seen, int answer) {
            seen[-Math.min(answer, 0)]++;
            return answer;
        }

        void look() {
            long v = number(), w = number(), n = random.nextLong();
            long in = model.size() == 0 ? v : model.at(Math.floorMod(n, model.size()));
            int i = small(-1, model.bars.size()), what = small(-1, 4), f = one(model.filters.size());
            int k = small(-1, 3), thing = small(-1, 3);
            same("place(" + v + ")", () -> real.place(v), () -> model.place(v));
            same("place(" + in + ")", () -> real.place(in), () -> model.place(in));
            same("draw(" + n + ")", () -> real.draw(n), () -> model.draw(n));
            same("bar(" + i + ", " + what + ")", () -> real.bar(i, what), () -> model.bar(i, what));
            same("barredAt(" + i + ")", () -> real.barredAt(i), () -> model.barredAt(i));
            same("distance(" + v + ", " + w + ")", () -> real.distance(v, w), () -> model.distance(v, w));
            same("asked(" + f + ")", () -> real.asked(f), () -> model.asked(f));
            same("box(" + k + ", " + thing + ")", () -> real.box(k, thing), () -> model.box(k, thing));
            same("told(" + what + ")", () -> real.told(what), () -> model.told(what));
        }

        boolean isRight() {
            while (made + MOST_IN_A_STEP <= CALLS && !wrong) {
                switch (random.nextInt(16)) {
                    case 0: makeFilter(); break;
                    case 1: makeSource(); break;
                    case 2: makeSpan(); break;
                    case 3: same("list()", real::list, model::list); break;
                    case 4: case 5: case 6: change(); break;
                    case 7: case 8: case 9: ask(); break;
                    case 10: case 11: look(); break;
                    default: reckon();
                }
            }
            return !wrong;
        }
    }

    private static int lacking(String call, int[] seen, int... answers) {
        int lacking = 0;
        for (int answer : answers) {
            if (seen[answer] == 0) {
                lacking++;
                System.out.println("no " + call + " came to " + -answer);
            }
        }
        return lacking;
    }

    public static void main(String[] args) {
        int[] seenOfAsk = new int[19], seenOfRange = new int[19];
        int wrong = 0;
        for (int seed = 0; seed < RUNS && wrong < 3; seed++) {
            if (!new Run(seed, seenOfAsk, seenOfRange).isRight()) {
                wrong++;
            }
        }
        wrong += lacking("ask()", seenOfAsk, 0, 1, 11, 12, 13, 14, 15, 16, 17, 18);
        wrong += lacking("range()", seenOfRange, 0, 1, 4, 11, 15, 18);
        System.out.println("ModelTests: " + RUNS + " runs, " + wrong + " wrong");
        if (wrong != 0) {
            System.exit(1);
        }
    }
}
