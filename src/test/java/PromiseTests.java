/** For each promise of the document: ordinary inputs, the edges that it names, and wrong inputs. */
public final class PromiseTests {
    private static final int NONE = CandidateRanges.NONE, BAD = CandidateRanges.BAD;
    private static final int FULL = CandidateRanges.FULL, LARGE = CandidateRanges.LARGE;
    private static final int NULL = -11, INDEX = -12, SIZE = -13, STORE = -14, CAST = -15, DIVIDE = -16, OWN = -17, WILD = -18;
    private static final long MIN = Long.MIN_VALUE, MAX = Long.MAX_VALUE, HALF = 1L << 62;

    private static int checks = 0;
    private static int wrong = 0;

    private interface Call {
        long answer();
    }

    private static void due(String what, long want, long got) {
        checks++;
        if (got != want) {
            wrong++;
            System.out.println(what + " answered " + got + ", due is " + want);
        }
    }

    private static void dueThrow(String what, Call call) {
        checks++;
        try {
            long got = call.answer();
            wrong++;
            System.out.println(what + " answered " + got + ", due is IndexOutOfBoundsException");
        } catch (IndexOutOfBoundsException e) {
            if (e.getClass() != IndexOutOfBoundsException.class) {
                wrong++;
                System.out.println(what + " threw " + e + ", due is IndexOutOfBoundsException itself");
            }
        }
    }

    private static void dueRange(String what, CandidateRanges x, long... want) {
        due(what + ": size()", want.length, x.size());
        for (int k = 0; k < want.length && k < x.size(); k++) {
            due(what + ": at(" + k + ")", want[k], x.at(k));
            due(what + ": place(" + want[k] + ")", k, x.place(want[k]));
        }
        dueThrow(what + ": at(" + want.length + ")", () -> x.at(want.length));
    }

    private static int join(CandidateRanges x, int s, int t) {
        return x.source(2, s, t, -9, -9, 0);
    }

    private static int pass(CandidateRanges x, int s, int filter) {
        return x.source(7, s, -9, filter, -9, 0);
    }

    private static int listOf(CandidateRanges x, long... numbers) {
        int s = x.list();
        for (long number : numbers) {
            x.add(s, number);
        }
        return s;
    }

    private static void promise1ANewObject() {
        CandidateRanges x = new CandidateRanges();
        for (int k = 0; k < 6; k++) {
            due("1: item() of new shelf " + k, NULL, x.item(k, 0, 1));
        }
        for (int k = 0; k < 3; k++) {
            for (int i = 0; i < 3; i++) {
                due("1: box(" + k + ", " + i + ")", 0, x.box(k, i));
            }
        }
        for (int what = 0; what < 4; what++) {
            due("1: told(" + what + ")", 0, x.told(what));
        }
        due("1: size()", 0, x.size());
        due("1: place(0)", -1, x.place(0));
        due("1: barred()", 0, x.barred());
        dueThrow("1: at(0)", () -> x.at(0));
        dueThrow("1: draw(0)", () -> x.draw(0));
        due("1: ask(0, 0)", NONE, x.ask(0, 0));
        due("1: range(0)", NONE, x.range(0));
        due("1: NONE", -1, CandidateRanges.NONE);
        due("1: BAD", -2, CandidateRanges.BAD);
        due("1: FULL", -3, CandidateRanges.FULL);
        due("1: LARGE", -4, CandidateRanges.LARGE);
    }

    private static void promise2Shelf() {
        CandidateRanges x = new CandidateRanges();
        due("2: no shelf -1", NONE, x.shelf(-1, 1, 1));
        due("2: no shelf 6", NONE, x.shelf(6, 1, 1));
        due("2: NONE before BAD", NONE, x.shelf(6, 9, 99));
        due("2: kind -1", BAD, x.shelf(0, -1, 1));
        due("2: kind 4", BAD, x.shelf(0, 4, 1));
        due("2: 13 longs", BAD, x.shelf(0, 1, 13));
        due("2: -1 ints", BAD, x.shelf(0, 2, -1));
        due("2: refusals change nothing", NULL, x.item(0, 0, 1));
        due("2: 12 longs", 1, x.shelf(5, 1, 12));
        due("2: item 11", 1, x.item(5, 11, 4));
        due("2: a row of 0s again", 1, x.shelf(5, 1, 12));
        int s = x.source(9, 0, 0, 5, 0, 0);
        due("2: range of it", 1, x.range(s));
        dueRange("2: 0s", x, 0);
        due("2: no longs", 1, x.shelf(5, 1, 0));
        due("2: item of none", INDEX, x.item(5, 0, 1));
        due("2: nothing, n is not looked at", 1, x.shelf(5, 0, -77));
        due("2: it holds nothing", NULL, x.item(5, 0, 1));
        due("2: a point", 1, x.shelf(5, 3, -77));
        int above = x.filter(12, 5, 0, 0);
        due("2: above the point", 1, x.ask(above, -76));
        due("2: at the point", 0, x.ask(above, -77));
    }

    private static void promise3Item() {
        CandidateRanges x = new CandidateRanges();
        due("3: no shelf -1", NONE, x.item(-1, 0, 1));
        due("3: no shelf 6", NONE, x.item(6, 0, 1));
        due("3: NULL before INDEX", NULL, x.item(2, 99, 1));
        x.shelf(2, 3, 5);
        due("3: CAST before INDEX", CAST, x.item(2, 99, 1));
        x.shelf(2, 1, 2);
        due("3: item -1", INDEX, x.item(2, -1, 1));
        due("3: item 2 of 2", INDEX, x.item(2, 2, 1));
        due("3: told(2) is not of item()", 0, x.told(2));
        due("3: a long", 1, x.item(2, 1, MIN));
        int s = x.source(9, 0, 0, 2, 0, 0);
        x.range(s);
        dueRange("3: longs", x, 0, MIN);
        x.shelf(2, 2, 3);
        due("3: lowest 32 bits", 1, x.item(2, 0, 0x1_8000_0000L));
        due("3: lowest 32 bits", 1, x.item(2, 2, 0x7_0000_0005L));
        x.range(s);
        dueRange("3: ints", x, Integer.MIN_VALUE, 0, 5);
    }

    private static void promise4Box() {
        CandidateRanges x = new CandidateRanges();
        due("4: no box -1", NONE, x.box(-1, 0));
        due("4: no box 3", NONE, x.box(3, 0));
        due("4: no item -1", NONE, x.box(0, -1));
        due("4: no item 3", NONE, x.box(0, 3));
        int any0 = x.filter(5, 2, 0, 0), any1 = x.filter(5, 2, 0, 1), any2 = x.filter(5, 2, 0, 2);
        x.ask(any0, 5);
        x.ask(any1, 6);
        x.ask(any2, 7);
        due("4: a stone", 1, x.box(2, 0));
        due("4: a gem", 2, x.box(2, 1));
        due("4: a shell", 3, x.box(2, 2));
        due("4: other boxes are empty", 0, x.box(1, 0));
    }

    private static void promise5Filter() {
        CandidateRanges x = new CandidateRanges();
        due("5: kind -1", BAD, x.filter(-1, 0, 0, 0));
        due("5: kind 13", BAD, x.filter(13, 0, 0, 0));
        due("5: ITEM of no shelf", BAD, x.filter(3, 6, 0, 0));
        due("5: POINT of no shelf", BAD, x.filter(12, -1, 0, 0));
        due("5: BOX of no box", BAD, x.filter(5, 3, 0, 0));
        due("5: BOX of no box", BAD, x.filter(5, -1, 0, 0));
        due("5: NOT of none", NONE, x.filter(7, 0, 0, 0));
        due("5: refusals change nothing", 0, x.told(0));
        due("5: BELOW has no a, b", 0, x.filter(0, -5, -5, 7));
        due("5: BOTH lacks a", NONE, x.filter(8, 1, 0, 0));
        due("5: BOTH lacks b", NONE, x.filter(8, 0, 1, 0));
        due("5: EITHER lacks b", NONE, x.filter(9, 0, -1, 0));
        due("5: ELSE lacks b", NONE, x.filter(10, 0, 1, 0));
        due("5: COUNTED lacks a", NONE, x.filter(11, -1, 0, 0));
        due("5: NOT has no b", 1, x.filter(7, 0, -5, 0));
        due("5: COUNTED has no b", 2, x.filter(11, 1, -5, 0));
        due("5: four in one another", 3, x.filter(8, 0, 2, 0));
        due("5: five in one another", 4, x.filter(9, 3, 0, 0));
        due("5: six in one another", 5, x.filter(10, 0, 4, 0));
        due("5: seven in one another by a", FULL, x.filter(8, 5, 0, 0));
        due("5: seven in one another by b", FULL, x.filter(8, 0, 5, 0));
        due("5: seven in one another", FULL, x.filter(11, 5, 0, 0));
        for (int f = 6; f < 20; f++) {
            due("5: filter " + f, f, x.filter(f % 3, 0, 0, 1));
        }
        due("5: 20 filters are kept", 20, x.told(0));
        due("5: a 21st number filter", FULL, x.filter(0, 0, 0, 0));
        due("5: a 21st shelf filter", FULL, x.filter(3, 0, 0, 0));
        due("5: a 21st box filter", FULL, x.filter(5, 0, 0, 0));
        due("5: a 21st made filter", FULL, x.filter(7, 0, 0, 0));
        due("5: BAD before FULL", BAD, x.filter(3, 6, 0, 0));
        due("5: NONE before FULL", NONE, x.filter(7, 20, 0, 0));
        due("5: 20 filters are kept", 20, x.told(0));
    }

    private static void promise5FilterDepth() {
        for (int kind : new int[] {0, 1, 2, 3, 4, 5, 6, 12}) {
            CandidateRanges x = new CandidateRanges();
            x.filter(kind, 0, 0, 0);
            for (int f = 1; f < 6; f++) {
                due("5: NOTs over kind " + kind, f, x.filter(7, f - 1, 0, 0));
            }
            due("5: a seventh over kind " + kind, FULL, x.filter(7, 5, 0, 0));
        }
    }

    private static void promise6AskOfNumbers() {
        CandidateRanges x = new CandidateRanges();
        due("6: no filter -1", NONE, x.ask(-1, 0));
        due("6: no filter 0", NONE, x.ask(0, 0));
        int below = x.filter(0, 0, 0, 5);
        due("6: 4 below 5", 1, x.ask(below, 4));
        due("6: 5 below 5", 0, x.ask(below, 5));
        int rests = x.filter(1, -2, 0, 3);
        due("6: -5 % 3 is -2", 1, x.ask(rests, -5));
        due("6: 1 % 3 is not -2", 0, x.ask(rests, 1));
        int byLess = x.filter(1, 0, 0, -1);
        due("6: least long % -1 is 0", 1, x.ask(byLess, MIN));
        due("6: % 0", DIVIDE, x.ask(x.filter(1, 0, 0, 0), 0));
        int shares = x.filter(2, -3, 0, -7);
        due("6: -7 by 2 is cut off to -3", 0, x.ask(shares, 2));
        due("6: -7 by 3 is cut off to -2", 1, x.ask(shares, 3));
        due("6: by 0", DIVIDE, x.ask(shares, 0));
        due("6: least long by -1", 0, x.ask(x.filter(2, Integer.MIN_VALUE, 0, MIN), -1));
        int room = x.filter(4, 0, 0, 12);
        due("6: room of 12", 1, x.ask(room, 12));
        due("6: room of 11", 0, x.ask(room, 11));
        due("6: room of 0", 0, x.ask(room, 0));
        due("6: room of 13", OWN, x.ask(room, 13));
        due("6: room of no int", OWN, x.ask(room, 1L << 32));
        due("6: room of -1", SIZE, x.ask(room, -1));
        due("6: room of the least long", SIZE, x.ask(room, MIN));
        int own = x.filter(6, 0, 0, MAX);
        due("6: OWN at v", OWN, x.ask(own, MAX));
        due("6: OWN beside v", 1, x.ask(own, MIN));
    }

    private static void promise6AskOfShelvesAndBoxes() {
        CandidateRanges x = new CandidateRanges();
        int item = x.filter(3, 4, 0, 10);
        int point = x.filter(12, 4, 0, 10);
        due("6: ITEM of nothing", NULL, x.ask(item, 1L << 40));
        due("6: POINT of nothing", NULL, x.ask(point, 0));
        x.shelf(4, 2, 3);
        due("6: ITEM of ints", CAST, x.ask(item, 99));
        due("6: POINT of ints", CAST, x.ask(point, 0));
        x.shelf(4, 3, 3);
        due("6: ITEM of a point", CAST, x.ask(item, 0));
        due("6: at the point", 0, x.ask(point, 3));
        due("6: above the point", 1, x.ask(point, 4));
        x.shelf(4, 1, 3);
        x.item(4, 0, 10);
        x.item(4, 2, 11);
        due("6: POINT of longs", CAST, x.ask(point, 0));
        due("6: item 0 is not above", 0, x.ask(item, 0));
        due("6: item 2 is above", 1, x.ask(item, 2));
        due("6: no item 3", INDEX, x.ask(item, 3));
        due("6: no item -1", INDEX, x.ask(item, -1));
        due("6: no int", INDEX, x.ask(item, (1L << 32) + 2));
        due("6: no int", INDEX, x.ask(item, MIN + 2));
        int stones = x.filter(5, 0, 0, -4), gems = x.filter(5, 1, 0, 5), any = x.filter(5, 2, 0, MIN);
        due("6: shell among stones", STORE, x.ask(stones, 1));
        due("6: it stays empty", 0, x.box(0, 1));
        due("6: gem among stones", 1, x.ask(stones, 3));
        due("6: -4 by 3 leaves 1", 2, x.box(0, 1));
        due("6: stone among stones", 1, x.ask(stones, -1));
        due("6: below 0 is a stone", 1, x.box(0, 1));
        due("6: stone among gems", STORE, x.ask(gems, 2));
        due("6: shell among gems", STORE, x.ask(gems, 4));
        due("6: -2 is a stone", STORE, x.ask(gems, -2));
        due("6: gem among gems", 1, x.ask(gems, 0));
        due("6: 5 by 3 leaves 2", 2, x.box(1, 2));
        due("6: shell among any", 1, x.ask(any, 7));
        due("6: least long by 3 leaves 2", 3, x.box(2, 2));
        due("6: -3 rests 0: a gem", 1, x.ask(any, -3));
        due("6: -3 rests 0: a gem", 2, x.box(2, 2));
    }

    private static void promise6AskOfFilters() {
        CandidateRanges x = new CandidateRanges();
        int below = x.filter(0, 0, 0, 5), own = x.filter(6, 0, 0, 3), room = x.filter(4, 0, 0, 0);
        int count = x.filter(11, room, 0, 0);
        int not = x.filter(7, below, 0, 0), notOwn = x.filter(7, own, 0, 0);
        due("6: NOT 4 below 5", 0, x.ask(not, 4));
        due("6: NOT 5 below 5", 1, x.ask(not, 5));
        due("6: NOT fails as a", OWN, x.ask(notOwn, 3));
        int both = x.filter(8, below, count, 0);
        due("6: BOTH asks b", SIZE, x.ask(both, -1));
        due("6: BOTH asks b", 1, x.ask(both, 2));
        due("6: b was asked", 2, x.asked(count));
        due("6: BOTH does not ask b", 0, x.ask(both, 20));
        due("6: b was not asked", 2, x.asked(count));
        int either = x.filter(9, below, count, 0);
        due("6: EITHER does not ask b", 1, x.ask(either, -1));
        due("6: b was not asked", 2, x.asked(count));
        due("6: EITHER asks b", 1, x.ask(either, 6));
        due("6: EITHER asks b", OWN, x.ask(either, 20));
        due("6: b was asked", 4, x.asked(count));
        due("6: BOTH fails as a", OWN, x.ask(x.filter(8, own, count, 0), 3));
        due("6: EITHER fails as a", OWN, x.ask(x.filter(9, own, count, 0), 3));
        due("6: b was not asked", 4, x.asked(count));
        int orElse = x.filter(10, room, below, 0);
        due("6: ELSE as a", 1, x.ask(orElse, 9));
        due("6: ELSE as b", 1, x.ask(orElse, -1));
        due("6: the FAILURE is counted", 1, x.told(2));
        due("6: ELSE as b", 0, x.ask(orElse, 13));
        due("6: ELSE as a, which does not fail", 0, x.ask(x.filter(10, below, count, 0), 6));
        due("6: b was not asked", 4, x.asked(count));
        int twice = x.filter(10, own, own, 0);
        due("6: ELSE fails as b", OWN, x.ask(twice, 3));
        due("6: both are counted", 2, x.told(2));
    }

    /** Own in six levels of ELSE fails 32 times; the 21st FAILURE is WILD, and no ELSE meets it. */
    private static void promise6AskWild() {
        CandidateRanges x = new CandidateRanges();
        int own = x.filter(6, 0, 0, 3), passes = x.filter(0, 0, 0, MAX);
        int counted = x.filter(11, own, 0, 0);
        int two = x.filter(10, counted, counted, 0), four = x.filter(10, two, two, 0);
        int eight = x.filter(10, four, four, 0), sixteen = x.filter(10, eight, eight, 0);
        due("6: 16 FAILURES", OWN, x.ask(sixteen, 3));
        due("6: 16 FAILURES", 16, x.told(2));
        due("6: 16 times", 16, x.asked(counted));
        int leaf2 = x.filter(10, own, own, 0), leaf4 = x.filter(10, leaf2, leaf2, 0);
        int leaf8 = x.filter(10, leaf4, leaf4, 0), leaf16 = x.filter(10, leaf8, leaf8, 0);
        due("6: 16 FAILURES are met", 1, x.ask(x.filter(10, leaf16, passes, 0), 3));
        int wild = x.filter(10, leaf16, leaf16, 0);
        due("6: the 21st is WILD", WILD, x.ask(wild, 3));
        due("6: 20 are counted", 20, x.told(2));
        int all = x.filter(10, leaf16, sixteen, 0);
        due("6: too deep", FULL, all);
        due("6: a new call counts anew", 1, x.ask(wild, 4));
        due("6: a new call counts anew", 0, x.told(2));
    }

    /** 16 FAILURES by one side, then 4 more and a PASS, or 5 more. */
    private static void promise6AskAtTheEdgeOfWild() {
        CandidateRanges x = new CandidateRanges();
        int own = x.filter(6, 0, 0, 3), passes = x.filter(0, 0, 0, MAX);
        int two = x.filter(10, own, own, 0), four = x.filter(10, two, two, 0);
        int eight = x.filter(10, four, four, 0), sixteen = x.filter(10, eight, eight, 0);
        int fourThenPasses = x.filter(10, four, passes, 0), five = x.filter(10, four, own, 0);
        due("6: 20 FAILURES, all met", 1, x.ask(x.filter(10, sixteen, fourThenPasses, 0), 3));
        due("6: 20 FAILURES", 20, x.told(2));
        int fiveThenPasses = x.filter(10, five, passes, 0);
        due("6: 21 FAILURES", WILD, x.ask(x.filter(10, sixteen, fiveThenPasses, 0), 3));
        due("6: 20 are counted", 20, x.told(2));
    }

    private static void promise7Asked() {
        CandidateRanges x = new CandidateRanges();
        due("7: no filter -1", NONE, x.asked(-1));
        due("7: no filter 0", NONE, x.asked(0));
        int own = x.filter(6, 0, 0, 3);
        int counted = x.filter(11, own, 0, 0);
        int not = x.filter(7, counted, 0, 0);
        due("7: not yet", 0, x.asked(counted));
        x.ask(counted, 1);
        x.ask(counted, 3);
        x.ask(not, 2);
        x.ask(own, 2);
        due("7: failed ones too, and by others", 3, x.asked(counted));
        due("7: of others 0", 0, x.asked(own));
        due("7: of others 0", 0, x.asked(not));
        int s = pass(x, x.span(1, 10, 1), counted);
        x.range(s);
        due("7: by a range", 13, x.asked(counted));
        int large = join(x, s, x.span(1, 201, 1));
        due("7: LARGE", LARGE, x.range(large));
        due("7: what was asked before LARGE stands", 23, x.asked(counted));
    }

    private static void promise8Span() {
        CandidateRanges x = new CandidateRanges();
        due("8: step 0", BAD, x.span(1, 2, 0));
        due("8: step -1", BAD, x.span(2, 1, -1));
        due("8: 2^64 numbers", FULL, x.span(MIN, MAX, 1));
        due("8: 2^63 numbers", FULL, x.span(MIN, -1, 1));
        due("8: 2^63 numbers", FULL, x.span(MIN, MAX, 2));
        due("8: refusals change nothing", 0, x.told(1));
        due("8: 2^63 - 1 numbers", 0, x.span(MIN, -2, 1));
        due("8: none", 1, x.span(MAX, MIN, 1));
        due("8: one", 2, x.span(MAX, MAX, MAX));
        due("8: three", 3, x.span(MIN, MAX, MAX));
        due("8: range", 1, x.range(0));
        due("8: 2^63 - 1 numbers", MAX, x.size());
        due("8: the last", -2, x.at(MAX - 1));
        due("8: its place", MAX - 1, x.place(-2));
        due("8: beyond", -1, x.place(-1));
        x.range(1);
        dueRange("8: none", x);
        x.range(2);
        dueRange("8: one", x, MAX);
        x.range(3);
        dueRange("8: three", x, MIN, -1, MAX - 1);
        for (int s = 4; s < 20; s++) {
            due("8: source " + s, s, x.span(0, 1, 1));
        }
        due("8: a 21st", FULL, x.span(0, 1, 1));
        due("8: BAD before FULL", BAD, x.span(0, 1, 0));
    }

    private static void promise8SpanOfAll64Bits() {
        CandidateRanges x = new CandidateRanges();
        due("8: 2^63 numbers by 2", FULL, x.span(MIN, MAX - 1, 2));
        due("8: 2^63 numbers from -1", FULL, x.span(-1, MAX - 1, 1));
        due("8: 2^63 + 1 numbers from -1", FULL, x.span(-1, MAX, 1));
        due("8: 2^63 numbers on both sides of 0", FULL, x.span(-HALF, HALF - 1, 1));
        due("8: 2^63 - 1 numbers on both sides of 0", 0, x.span(-HALF, HALF - 2, 1));
        due("8: 2^63 - 1 numbers by 2", 1, x.span(MIN, MAX - 2, 2));
        due("8: 2^63 - 1 numbers from -1", 2, x.span(-1, MAX - 2, 1));
        due("8: by 3", 3, x.span(MIN, MAX, 3));
        due("8: by 2^62", 4, x.span(MIN, MAX, HALF));
        due("8: by 2^62 + 1", 5, x.span(MIN, MAX, HALF + 1));
        x.range(1);
        due("8: size by 2", MAX, x.size());
        due("8: the last by 2", MAX - 3, x.at(MAX - 1));
        x.range(2);
        due("8: size from -1", MAX, x.size());
        due("8: the last from -1", MAX - 2, x.at(MAX - 1));
        x.range(3);
        due("8: size by 3", 6148914691236517206L, x.size());
        x.range(4);
        dueRange("8: by 2^62", x, MIN, -HALF, 0, HALF);
        x.range(5);
        dueRange("8: by 2^62 + 1", x, MIN, -HALF + 1, 2, HALF + 3);
    }

    private static void promise9List() {
        CandidateRanges x = new CandidateRanges();
        for (int s = 0; s < 20; s++) {
            due("9: list " + s, s, x.list());
        }
        due("9: a 21st", FULL, x.list());
        due("9: 20 are kept", 20, x.told(1));
        due("9: it is empty", 1, x.range(19));
        dueRange("9: it is empty", x);
    }

    private static void promise10Add() {
        CandidateRanges x = new CandidateRanges();
        due("10: no source", NONE, x.add(0, 1));
        x.span(1, 3, 1);
        due("10: a SPAN", NONE, x.add(0, 1));
        due("10: no source -1", NONE, x.add(-1, 1));
        int s = x.list(), turned = x.source(5, s, 0, 0, 0, 0), other = x.list();
        due("10: a TURNED", NONE, x.add(turned, 1));
        x.shelf(0, 1, 2);
        due("10: a SHELF", NONE, x.add(x.source(9, 0, 0, 0, 0, 0), 1));
        for (int i = 1; i <= 12; i++) {
            due("10: number " + i, i, x.add(s, 100 - i % 4));
        }
        due("10: a 13th", FULL, x.add(s, 7));
        due("10: another", 1, x.add(other, 7));
        x.range(turned);
        dueRange("10: as they are now", x, 100, 97, 98, 99);
        x.range(other);
        x.add(other, 8);
        dueRange("10: a RANGE stays as reckoned", x, 7);
    }

    private static void promise11Source() {
        CandidateRanges x = new CandidateRanges();
        int f = x.filter(0, 0, 0, 3);
        due("11: span", 0, x.span(1, 3, 1));
        due("11: sort 0", BAD, x.source(0, 0, 0, 0, 1, 0));
        due("11: sort 1", BAD, x.source(1, 0, 0, 0, 1, 0));
        due("11: sort 10", BAD, x.source(10, 0, 0, 0, 1, 0));
        due("11: sort -1", BAD, x.source(-1, 0, 0, 0, 1, 0));
        due("11: NEAR -1", BAD, x.source(6, 0, 0, 0, -1, 0));
        due("11: NEAR 201", BAD, x.source(6, 0, 0, 0, 201, 0));
        due("11: EVERY 0", BAD, x.source(8, 0, 0, 0, 0, 0));
        due("11: EVERY 201", BAD, x.source(8, 0, 0, 0, 201, 0));
        due("11: BAD before NONE", BAD, x.source(8, 9, 0, 0, 0, 0));
        due("11: SHELF 6", BAD, x.source(9, 0, 0, 6, 0, 0));
        due("11: SHELF -1", BAD, x.source(9, 0, 0, -1, 0, 0));
        for (int sort = 2; sort <= 8; sort++) {
            due("11: no s", NONE, x.source(sort, 1, 0, f, 1, 0));
            due("11: no s", NONE, x.source(sort, -1, 0, f, 1, 0));
        }
        for (int sort = 2; sort <= 4; sort++) {
            due("11: no t", NONE, x.source(sort, 0, 1, f, 1, 0));
            due("11: no t", NONE, x.source(sort, 0, -1, f, 1, 0));
        }
        due("11: no filter", NONE, x.source(7, 0, 0, 1, 0, 0));
        due("11: no filter", NONE, x.source(7, 0, 0, -1, 0, 0));
        due("11: refusals change nothing", 1, x.told(1));
        due("11: JOIN has no a, n", 1, x.source(2, 0, 0, -1, -1, 0));
        due("11: TURNED has no t, a, n", 2, x.source(5, 1, -1, -1, -1, 0));
        due("11: NEAR 0", 3, x.source(6, 2, -1, -1, 0, 0));
        due("11: PASS", 4, x.source(7, 3, -1, f, -1, 0));
        due("11: EVERY 200, the sixth", 5, x.source(8, 4, -1, -1, 200, 0));
        due("11: a seventh by s", FULL, x.source(5, 5, 0, 0, 0, 0));
        due("11: a seventh by t", FULL, x.source(3, 0, 5, 0, 0, 0));
        due("11: SHELF has no s, t, n", 6, x.source(9, -1, -1, 5, -1, 0));
        for (int s = 7; s < 20; s++) {
            due("11: source " + s, s, x.source(6, 0, 0, 0, 200, 0));
        }
        due("11: a 21st SHELF", FULL, x.source(9, 0, 0, 0, 0, 0));
        due("11: a 21st JOIN", FULL, x.source(2, 0, 0, 0, 0, 0));
        due("11: NONE before FULL", NONE, x.source(2, 0, 20, 0, 0, 0));
        due("11: BAD before FULL", BAD, x.source(9, 0, 0, 6, 0, 0));
    }

    private static void promise11SourceDepth() {
        for (int sort : new int[] {0, 1, 9}) {
            CandidateRanges x = new CandidateRanges();
            due("11: source 0", 0, sort == 0 ? x.span(1, 2, 1) : sort == 1 ? x.list() : x.source(9, 0, 0, 0, 0, 0));
            for (int s = 1; s < 6; s++) {
                due("11: TURNEDs over sort " + sort, s, x.source(5, s - 1, 0, 0, 0, 0));
            }
            due("11: a seventh over sort " + sort, FULL, x.source(5, 5, 0, 0, 0, 0));
        }
    }

    private static void promise12RangeOfLists() {
        CandidateRanges x = new CandidateRanges();
        int s = listOf(x, 5, 1, 5, 3, 1, 8), t = listOf(x, 1, 9, 5, 9);
        due("12: no source -1", NONE, x.range(-1));
        due("12: no source 2", NONE, x.range(2));
        due("12: LIST", 1, x.range(s));
        dueRange("12: LIST", x, 5, 1, 3, 8);
        x.range(join(x, t, s));
        dueRange("12: JOIN", x, 1, 9, 5, 3, 8);
        x.range(x.source(3, s, t, 0, 0, 0));
        dueRange("12: MEET", x, 5, 1);
        x.range(x.source(4, s, t, 0, 0, 0));
        dueRange("12: LESS", x, 3, 8);
        int turned = x.source(5, s, 0, 0, 0, 0);
        x.range(turned);
        dueRange("12: TURNED", x, 8, 1, 3, 5);
        x.range(x.source(6, s, 0, 0, 3, 4));
        dueRange("12: NEAR, a number twice counts twice", x, 3, 5);
        x.range(x.source(6, s, 0, 0, 200, 2));
        dueRange("12: NEAR, the lesser first", x, 1, 3, 5, 8);
        x.range(x.source(6, s, 0, 0, 0, 2));
        dueRange("12: NEAR, none", x);
        x.range(x.source(8, s, 0, 0, 2, 0));
        dueRange("12: EVERY 2nd of 5 1 5 3 1 8", x, 5, 1);
        x.range(x.source(8, s, 0, 0, 5, 0));
        dueRange("12: EVERY 5th", x, 5, 8);
        x.range(x.source(8, s, 0, 0, 200, 0));
        dueRange("12: EVERY 200th", x, 5);
        due("12: NONE", NONE, x.range(20));
        dueRange("12: NONE changes nothing", x, 5);
    }

    private static void promise12RangeNearExactly() {
        CandidateRanges x = new CandidateRanges();
        int s = listOf(x, MAX, MIN, 0, -1, 1);
        x.range(x.source(6, s, 0, 0, 5, MAX));
        dueRange("12: NEAR the greatest", x, MAX, 1, 0, -1, MIN);
        x.range(x.source(6, s, 0, 0, 5, MIN));
        dueRange("12: NEAR the least", x, MIN, -1, 0, 1, MAX);
        x.range(x.source(6, s, 0, 0, 5, -1));
        dueRange("12: NEAR -1", x, -1, 0, 1, MIN, MAX);
        x.range(x.source(6, s, 0, 0, 5, 0));
        dueRange("12: NEAR 0", x, 0, -1, 1, MAX, MIN);
    }

    private static void promise12RangeOfPlain() {
        CandidateRanges x = new CandidateRanges();
        int s = x.span(-10, 11, 4);
        int turned = x.source(5, s, 0, 0, 0, 0);
        int every = x.source(8, turned, 0, 0, 2, 0);
        x.range(s);
        dueRange("12: SPAN", x, -10, -6, -2, 2, 6, 10);
        x.range(turned);
        dueRange("12: TURNED", x, 10, 6, 2, -2, -6, -10);
        x.range(every);
        dueRange("12: EVERY of TURNED", x, 10, 2, -6);
        due("12: left out", -1, x.place(6));
        due("12: beyond", -1, x.place(-14));
        due("12: before", -1, x.place(18));
        int none = x.span(1, 0, 1);
        x.range(x.source(8, x.source(5, none, 0, 0, 0, 0), 0, 0, 3, 0));
        dueRange("12: none", x);
        int far = x.span(MIN, MAX, MAX);
        int one = x.source(8, far, 0, 0, 3, 0);
        x.range(x.source(5, x.source(8, one, 0, 0, 200, 0), 0, 0, 0, 0));
        dueRange("12: one", x, MIN);
        due("12: the stride does not matter", -1, x.place(MIN + 1));
        x.range(x.source(8, x.source(5, far, 0, 0, 0, 0), 0, 0, 2, 0));
        dueRange("12: as far as can be", x, MAX - 1, MIN);
    }

    private static void promise12RangeLarge() {
        CandidateRanges x = new CandidateRanges();
        int most = x.span(1, 200, 1), large = x.span(1, 201, 1), one = listOf(x, 7);
        int f = x.filter(11, x.filter(0, 0, 0, 300), 0, 0);
        due("12: 201 that are PLAIN", 1, x.range(large));
        due("12: EVERY of 201 is PLAIN", 1, x.range(x.source(8, large, 0, 0, 2, 0)));
        due("12: 101 of 201", 101, x.size());
        due("12: told(3)", 1, x.told(3));
        due("12: 200 pass", 1, x.range(pass(x, most, f)));
        due("12: 200 pass", 200, x.size());
        due("12: asked", 200, x.asked(f));
        due("12: PASS of 201", LARGE, x.range(pass(x, large, f)));
        due("12: not asked", 200, x.asked(f));
        due("12: the latest RANGE stays", 200, x.size());
        due("12: JOIN of 200", 1, x.range(join(x, most, x.list())));
        due("12: JOIN of 200", 200, x.size());
        int join = join(x, most, one);
        due("12: JOIN of 201, one of them twice", LARGE, x.range(join));
        due("12: EVERY of that", LARGE, x.range(x.source(8, join, 0, 0, 200, 0)));
        int half = x.span(1, 150, 1);
        due("12: MEET of 150, t of 120", 1, x.range(x.source(3, half, join(x, x.span(1, 60, 1), x.span(141, 200, 1)), 0, 0, 0)));
        due("12: MEET of 150, t of 120", 70, x.size());
        due("12: NEAR of 201", LARGE, x.range(x.source(6, large, 0, 0, 1, 7)));
        due("12: MEET, t of 201", LARGE, x.range(x.source(3, one, large, 0, 0, 0)));
        due("12: LESS, s of 201", LARGE, x.range(x.source(4, large, one, 0, 0, 0)));
        int few = x.source(8, large, 0, 0, 2, 0);
        due("12: a PLAIN one is told without its own", 1, x.range(join(x, few, one)));
        due("12: 7 is in both", 101, x.size());
        due("12: told(3)", 0, x.told(3));
    }

    private static void promise12RangeFailed() {
        CandidateRanges x = new CandidateRanges();
        int ten = x.span(1, 10, 1), large = x.span(1, 201, 1);
        int shelf = x.source(9, 0, 0, 3, 0, 0);
        int shell = x.filter(5, 2, 0, 0);
        int own = x.filter(11, x.filter(6, 0, 0, 4), 0, 0);
        int boxed = pass(x, pass(x, ten, shell), own);
        x.range(ten);
        due("12: FAILED by NULL", NULL, x.range(join(x, boxed, shelf)));
        due("12: the latest RANGE stays", 10, x.size());
        due("12: told(3)", 1, x.told(3));
        due("12: COUNTED stands", 10, x.asked(own));
        due("12: BOXES stand", 3, x.box(2, 0));
        due("12: BARRED stands", 1, x.barred());
        due("12: two FAILURES", 2, x.told(2));
        x.shelf(3, 3, 1);
        due("12: FAILED by CAST", CAST, x.range(join(x, shelf, boxed)));
        due("12: t was not come to", 10, x.asked(own));
        due("12: no one BARRED", 0, x.barred());
        due("12: FAILED before LARGE", CAST, x.range(join(x, shelf, large)));
        due("12: LARGE before FAILED", LARGE, x.range(join(x, large, shelf)));
        due("12: a SHELF's FAILURE is not met", CAST, x.range(pass(x, shelf, shell)));
        x.shelf(3, 2, 0);
        due("12: a row of none", 1, x.range(shelf));
        due("12: none", 0, x.size());
        due("12: s and t are each gone through", 1, x.range(x.source(3, boxed, boxed, 0, 0, 0)));
        due("12: asked twice", 30, x.asked(own));
        due("12: BARRED twice", 2, x.barred());
    }

    /** 20 are BARRED, and the 21st FAILURE, be it of a SHELF's SOURCE, is WILD. */
    private static void promise12RangeWild() {
        CandidateRanges x = new CandidateRanges();
        int divide = x.filter(1, 0, 0, 0), passes = x.filter(0, 0, 0, MAX);
        int twenty = pass(x, x.span(1, 20, 1), divide), more = pass(x, x.span(1, 21, 1), divide);
        int shelf = x.source(9, 0, 0, 0, 0, 0);
        due("12: 20 FAILURES", 1, x.range(twenty));
        due("12: 20 BARRED", 20, x.barred());
        due("12: 20 FAILURES", 20, x.told(2));
        due("12: 21 FAILURES", WILD, x.range(more));
        due("12: 20 BARRED", 20, x.barred());
        due("12: 20 are counted", 20, x.told(2));
        due("12: a SHELF's is the 21st", WILD, x.range(join(x, twenty, shelf)));
        due("12: a SHELF's is the first", NULL, x.range(join(x, shelf, twenty)));
        int met = x.filter(10, divide, passes, 0);
        due("12: met ones are counted", WILD, x.range(pass(x, x.span(1, 21, 1), met)));
        due("12: no one was BARRED", 0, x.barred());
        due("12: 20 met", 1, x.range(pass(x, x.span(1, 20, 1), met)));
        due("12: 20 pass", 20, x.size());
        due("12: 20 FAILURES", 20, x.told(2));
    }

    /** What a source of any sort gathers as t, behind the numbers of s. */
    private static void promise12RangeOfT() {
        CandidateRanges x = new CandidateRanges();
        int s = listOf(x, 1, 2), none = x.list(), t = listOf(x, 3, 9, 4, 8, 5);
        int below = x.filter(0, 0, 0, 6);
        x.range(join(x, s, none));
        dueRange("12: JOIN, t has none", x, 1, 2);
        x.range(join(x, none, s));
        dueRange("12: JOIN, s has none", x, 1, 2);
        x.range(x.source(4, t, none, 0, 0, 0));
        dueRange("12: LESS, t has none", x, 3, 9, 4, 8, 5);
        x.range(x.source(3, s, t, 0, 0, 0));
        dueRange("12: MEET, nothing in both", x);
        x.range(x.source(4, none, t, 0, 0, 0));
        dueRange("12: LESS, s has none", x);
        x.range(join(x, s, x.source(5, t, 0, 0, 0, 0)));
        dueRange("12: JOIN, t is TURNED", x, 1, 2, 5, 8, 4, 9, 3);
        x.range(join(x, s, x.source(6, t, 0, 0, 200, 8)));
        dueRange("12: JOIN, t is NEAR", x, 1, 2, 8, 9, 5, 4, 3);
        x.range(join(x, s, x.source(8, t, 0, 0, 2, 0)));
        dueRange("12: JOIN, t is EVERY", x, 1, 2, 3, 4, 5);
        x.range(join(x, s, pass(x, t, below)));
        dueRange("12: JOIN, t is PASS", x, 1, 2, 3, 4, 5);
        due("12: who does not pass is not BARRED", 0, x.barred());
        x.range(join(x, s, join(x, t, s)));
        dueRange("12: JOIN, t is JOIN", x, 1, 2, 3, 9, 4, 8, 5);
    }

    private static void promise12RangeOfEvery() {
        CandidateRanges x = new CandidateRanges();
        int four = listOf(x, 4, 3, 2, 1);
        x.range(x.source(8, four, 0, 0, 1, 0));
        dueRange("12: EVERY 1st", x, 4, 3, 2, 1);
        x.range(x.source(8, four, 0, 0, 2, 0));
        dueRange("12: EVERY 2nd", x, 4, 2);
        x.range(x.source(8, four, 0, 0, 4, 0));
        dueRange("12: EVERY 4th", x, 4);
        x.range(x.source(8, x.list(), 0, 0, 1, 0));
        dueRange("12: EVERY of none", x);
    }

    /** Six levels that each keep 200 numbers standing while the next is gathered. */
    private static void promise12RangeDeep() {
        CandidateRanges x = new CandidateRanges();
        int base = x.span(1, 200, 1), s = base;
        for (int level = 2; level <= 6; level++) {
            s = x.source(3, base, s, 0, 0, 0);
        }
        due("12: six levels", 1, x.range(s));
        due("12: all 200", 200, x.size());
        due("12: the last", 200, x.at(199));
    }

    private static void promise13Size() {
        CandidateRanges x = new CandidateRanges();
        due("13: without one", 0, x.size());
        x.range(x.span(0, MAX - 1, 1));
        due("13: the most", MAX, x.size());
        x.range(listOf(x, 4, 4, 4));
        due("13: each once", 1, x.size());
        x.range(x.list());
        due("13: none", 0, x.size());
    }

    private static void promise14At() {
        CandidateRanges x = new CandidateRanges();
        x.range(x.span(3, 9, 3));
        due("14: at(2)", 9, x.at(2));
        dueThrow("14: at(3)", () -> x.at(3));
        dueThrow("14: at(-1)", () -> x.at(-1));
        dueThrow("14: at(least)", () -> x.at(MIN));
        x.range(listOf(x, 8, 6));
        due("14: at(1)", 6, x.at(1));
        dueThrow("14: at(2)", () -> x.at(2));
        dueThrow("14: at(-1)", () -> x.at(-1));
        dueThrow("14: at(2^32)", () -> x.at(1L << 32));
        dueThrow("14: at(greatest)", () -> x.at(MAX));
    }

    private static void promise15Place() {
        CandidateRanges x = new CandidateRanges();
        x.range(listOf(x, 8, 6, 8, MIN));
        due("15: 8", 0, x.place(8));
        due("15: 6", 1, x.place(6));
        due("15: least", 2, x.place(MIN));
        due("15: not in it", -1, x.place(0));
        x.range(x.source(5, x.span(MIN, MAX, 3), 0, 0, 0, 0));
        due("15: greatest of TURNED", 0, x.place(MAX));
        due("15: least of TURNED", 6148914691236517205L, x.place(MIN));
        due("15: between", -1, x.place(MAX - 1));
        x.range(x.span(0, MAX - 1, 1));
        due("15: farther than can be", -1, x.place(MIN));
        due("15: one beyond", -1, x.place(MAX));
        x.range(x.span(-5, -1, 2));
        due("15: below", -1, x.place(-7));
        due("15: above", -1, x.place(1));
        due("15: far above", -1, x.place(MAX));
    }

    private static void promise15PlaceOfAll64Bits() {
        CandidateRanges x = new CandidateRanges();
        x.range(x.span(MIN, MAX, 3));
        due("15: 2^63 + 1 from the first", 3074457345618258603L, x.place(1));
        due("15: 2^63 from the first", -1, x.place(0));
        due("15: 2^63 - 1 from the first", -1, x.place(-1));
        due("15: 2^63 - 2 from the first", 3074457345618258602L, x.place(-2));
        due("15: 2^64 - 1 from the first", 6148914691236517205L, x.place(MAX));
        due("15: 2^64 - 2 from the first", -1, x.place(MAX - 1));
        int quarters = x.span(MIN, MAX, HALF);
        int halves = x.source(8, quarters, 0, 0, 2, 0), threes = x.source(8, quarters, 0, 0, 3, 0);
        x.range(halves);
        dueRange("15: 2^63 apart", x, MIN, 0);
        for (long v : new long[] {-HALF, HALF, -1, 1, MIN + 1, MAX}) {
            due("15: 2^63 apart, " + v, -1, x.place(v));
        }
        x.range(x.source(5, threes, 0, 0, 0, 0));
        dueRange("15: 3 * 2^62 apart, TURNED", x, HALF, MIN);
        for (long v : new long[] {-HALF, 0, HALF - 1, HALF + 1, MIN + 1, MAX}) {
            due("15: 3 * 2^62 apart, TURNED, " + v, -1, x.place(v));
        }
        x.range(x.span(MIN, -2, 1));
        due("15: 2^64 - 1 beyond the first by 1", -1, x.place(MAX));
        due("15: 2^63 beyond the first by 1", -1, x.place(0));
    }

    private static void promise16Draw() {
        CandidateRanges x = new CandidateRanges();
        dueThrow("16: no range", () -> x.draw(1));
        x.range(listOf(x, 10, 20, 30, 10));
        due("16: 0", 10, x.draw(0));
        due("16: 5", 30, x.draw(5));
        due("16: -1 is 2^64 - 1, and leaves 0", 10, x.draw(-1));
        due("16: least is 2^63, and leaves 2", 30, x.draw(MIN));
        x.range(x.span(0, MAX - 1, 1));
        due("16: -1 leaves 1", 1, x.draw(-1));
        due("16: greatest leaves 0", 0, x.draw(MAX));
        x.range(listOf(x, 6));
        due("16: of one", 6, x.draw(MAX));
        x.range(x.list());
        dueThrow("16: it has none", () -> x.draw(-1));
    }

    private static void promise16DrawOfAll64Bits() {
        CandidateRanges x = new CandidateRanges();
        x.range(x.span(MIN, MAX, 3));
        due("16: 2^64 - 1 of a third", MAX - 6, x.draw(-1));
        due("16: 2^63 of a third", -2, x.draw(MIN));
        due("16: 2^63 - 1 of a third", -5, x.draw(MAX));
        x.range(x.span(0, HALF - 1, 1));
        due("16: 2^64 - 1 of 2^62", HALF - 1, x.draw(-1));
        due("16: 2^63 of 2^62", 0, x.draw(MIN));
        due("16: 2^63 + 5 of 2^62", 5, x.draw(MIN + 5));
        due("16: 2^62 of 2^62", 0, x.draw(HALF));
        x.range(x.span(0, HALF, 1));
        due("16: 2^64 - 1 of 2^62 + 1", HALF - 4, x.draw(-1));
        due("16: 2^63 of 2^62 + 1", HALF - 1, x.draw(MIN));
        x.range(x.span(0, MAX - 1, 1));
        due("16: 2^64 - 2 of 2^63 - 1", 0, x.draw(-2));
        due("16: 2^64 - 3 of 2^63 - 1", MAX - 1, x.draw(-3));
        due("16: 2^63 of 2^63 - 1", 1, x.draw(MIN));
        x.range(x.span(0, 9, 1));
        due("16: 2^64 - 1 of ten", 5, x.draw(-1));
        due("16: 2^63 of ten", 8, x.draw(MIN));
        x.range(x.span(7, 7, 1));
        due("16: 2^64 - 1 of one", 7, x.draw(-1));
        due("16: 2^63 of one", 7, x.draw(MIN));
    }

    private static void promise17To19Barred() {
        CandidateRanges x = new CandidateRanges();
        int room = x.filter(4, 0, 0, 0), own = x.filter(6, 0, 0, -2), divide = x.filter(1, 0, 0, 0);
        int both = x.filter(8, own, room, 0);
        int orElse = x.filter(10, room, own, 0);
        int list = listOf(x, 13, 5, -1, -2, 13);
        int s = pass(x, list, both);
        x.range(s);
        dueRange("17: who passes", x, 5);
        due("17: BARRED, each time", 4, x.barred());
        long[] numbers = {13, -1, -2, 13};
        int[] failures = {7, 3, 7, 7};
        int[] filters = {room, room, own, room};
        for (int i = 0; i < 4; i++) {
            due("18: FAILURE of " + i, failures[i], x.bar(i, 0));
            due("18: FILTER of " + i, filters[i], x.bar(i, 1));
            due("19: number of " + i, numbers[i], x.barredAt(i));
        }
        due("18: no 4th", NONE, x.bar(4, 0));
        due("18: no -1st", NONE, x.bar(-1, 1));
        due("18: what 2", BAD, x.bar(0, 2));
        due("18: what -1", BAD, x.bar(0, -1));
        due("18: NONE before BAD", NONE, x.bar(4, 2));
        dueThrow("19: no 4th", () -> x.barredAt(4));
        dueThrow("19: no -1st", () -> x.barredAt(-1));
        x.ask(divide, 1);
        due("17: ask() bars no one", 4, x.barred());
        due("17: NONE", NONE, x.range(99));
        due("17: NONE changes nothing", 4, x.barred());
        x.range(pass(x, list, orElse));
        due("17: met by ELSE, but for one", 1, x.barred());
        due("18: it AROSE in b", own, x.bar(0, 1));
        due("19: it", -2, x.barredAt(0));
        due("17: met ones are counted", 5, x.told(2));
        x.range(list);
        due("17: a range without filters", 0, x.barred());
        dueThrow("19: none", () -> x.barredAt(0));
        int inner = pass(x, list, own), outer = pass(x, inner, divide);
        x.range(outer);
        due("19: the inner one is gone through first", -2, x.barredAt(0));
        due("19: then the outer one", 13, x.barredAt(1));
        due("17: 1 + 4", 5, x.barred());
        due("17: LARGE", LARGE, x.range(join(x, inner, x.span(1, 201, 1))));
        due("17: LARGE, but BARRED stands", 1, x.barred());
        x.range(x.span(1, 2, 1));
        due("17: PLAIN", 0, x.barred());
    }

    private static void promise20Distance() {
        CandidateRanges x = new CandidateRanges();
        due("20: 3, 10", 7, x.distance(3, 10));
        due("20: 10, 3", 7, x.distance(10, 3));
        due("20: -4, 4", 8, x.distance(-4, 4));
        due("20: same", 0, x.distance(MIN, MIN));
        due("20: least, greatest", -1, x.distance(MIN, MAX));
        due("20: greatest, least", -1, x.distance(MAX, MIN));
        due("20: least, 0", MIN, x.distance(MIN, 0));
    }

    private static void promise21Told() {
        CandidateRanges x = new CandidateRanges();
        due("21: what -1", BAD, x.told(-1));
        due("21: what 4", BAD, x.told(4));
        int divide = x.filter(1, 0, 0, 0);
        int s = x.span(1, 3, 1), list = x.list();
        due("21: FILTERS", 1, x.told(0));
        due("21: SOURCES", 2, x.told(1));
        x.range(pass(x, s, divide));
        due("21: FAILURES of range()", 3, x.told(2));
        due("21: not PLAIN", 0, x.told(3));
        x.ask(divide, 1);
        due("21: FAILURES of ask()", 1, x.told(2));
        x.ask(99, 1);
        x.range(99);
        due("21: NONE changes nothing", 1, x.told(2));
        x.range(x.source(5, s, 0, 0, 0, 0));
        due("21: FAILURES of range()", 0, x.told(2));
        due("21: TURNED of SPAN is PLAIN", 1, x.told(3));
        x.range(x.source(5, list, 0, 0, 0, 0));
        due("21: TURNED of LIST is not", 0, x.told(3));
        x.range(x.source(6, s, 0, 0, 3, 0));
        due("21: NEAR is not", 0, x.told(3));
        x.range(x.source(8, s, 0, 0, 3, 0));
        due("21: EVERY of SPAN is PLAIN", 1, x.told(3));
        x.range(x.source(9, 0, 0, 0, 0, 0));
        due("21: the RANGE that stays is PLAIN", 1, x.told(3));
        due("21: the SHELF failed", 1, x.told(2));
    }

    public static void main(String[] args) {
        promise1ANewObject();
        promise2Shelf();
        promise3Item();
        promise4Box();
        promise5Filter();
        promise5FilterDepth();
        promise6AskOfNumbers();
        promise6AskOfShelvesAndBoxes();
        promise6AskOfFilters();
        promise6AskWild();
        promise6AskAtTheEdgeOfWild();
        promise7Asked();
        promise8Span();
        promise8SpanOfAll64Bits();
        promise9List();
        promise10Add();
        promise11Source();
        promise11SourceDepth();
        promise12RangeOfLists();
        promise12RangeNearExactly();
        promise12RangeOfPlain();
        promise12RangeLarge();
        promise12RangeFailed();
        promise12RangeWild();
        promise12RangeOfT();
        promise12RangeOfEvery();
        promise12RangeDeep();
        promise13Size();
        promise14At();
        promise15Place();
        promise15PlaceOfAll64Bits();
        promise16Draw();
        promise16DrawOfAll64Bits();
        promise17To19Barred();
        promise20Distance();
        promise21Told();
        System.out.println("PromiseTests: " + checks + " checks, " + wrong + " wrong");
        if (wrong != 0) {
            System.exit(1);
        }
    }
}
