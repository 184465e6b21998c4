import java.math.BigInteger;

/** Promises 8, 15 and 16 at numbers that need all 64 bits: edges against edges, reckoned again by BigInteger. */
public final class WideTests {
    private static final BigInteger MOST = BigInteger.valueOf(Long.MAX_VALUE);
    private static final long[] EDGES = {
        Long.MIN_VALUE, Long.MIN_VALUE + 1, Long.MIN_VALUE + 2, -(1L << 62) - 1, -(1L << 62), -(1L << 62) + 1,
        -3074457345618258603L, -(1L << 32), -3, -2, -1, 0, 1, 2, 3, 10, (1L << 31) - 1, 1L << 32, 6148914691236517205L,
        (1L << 62) - 1, 1L << 62, (1L << 62) + 1, Long.MAX_VALUE - 2, Long.MAX_VALUE - 1, Long.MAX_VALUE
    };
    /** 0: the SPAN itself; below 0: TURNED, then EVERY so many; above 0: EVERY so many. */
    private static final int[] FORMS = {0, -1, 2, -2, 3, -3, 7, -199, 200};

    private static long checks = 0;
    private static int wrong = 0;
    private static int accepted = 0;
    private static int refused = 0;
    private static int widest = 0;
    private static int widestStrides = 0;

    private static void due(String what, long want, long got) {
        checks++;
        if (want != got && wrong++ < 20) {
            System.out.println(what + " answered " + got + ", due is " + want);
        }
    }

    private static BigInteger exactly(long v) {
        return BigInteger.valueOf(v);
    }

    private static BigInteger withoutSign(long v) {
        return new BigInteger(Long.toUnsignedString(v));
    }

    private static BigInteger countOf(long low, long high, long step) {
        return low > high ? BigInteger.ZERO : exactly(high).subtract(exactly(low)).divide(exactly(step)).add(BigInteger.ONE);
    }

    private static void checkSpan(long low, long high, long step) {
        String called = "span(" + low + ", " + high + ", " + step + ")";
        CandidateRanges x = new CandidateRanges();
        int answer = x.span(low, high, step);
        if (step < 1) {
            due(called, CandidateRanges.BAD, answer);
            return;
        }
        BigInteger count = countOf(low, high, step);
        if (count.compareTo(MOST) > 0) {
            refused++;
            due(called, CandidateRanges.FULL, answer);
            return;
        }
        due(called, 0, answer);
        // Which form is looked at goes round with the spans: all of them, for each span, would take long.
        int form = FORMS[accepted++ % FORMS.length];
        checkForm(x, called, exactly(low), exactly(step), count, form);
        checkForm(x, called, exactly(low), exactly(step), count, 0);
    }

    private static void checkForm(CandidateRanges x, String called, BigInteger low, BigInteger step, BigInteger count, int form) {
        int s = 0;
        BigInteger first = low, stride = step, many = count;
        if (form < 0) {
            s = x.source(5, s, 0, 0, 0, 0);
            first = low.add(step.multiply(count.subtract(BigInteger.ONE)));
            stride = step.negate();
        }
        if (form != 0 && count.signum() > 0) {
            int n = Math.abs(form);
            s = x.source(8, s, 0, 0, n, 0);
            stride = stride.multiply(exactly(n));
            many = count.subtract(BigInteger.ONE).divide(exactly(n)).add(BigInteger.ONE);
        }
        String what = called + ", form " + form;
        due(what + ": range", 1, x.range(s));
        due(what + ": size", many.longValueExact(), x.size());
        checkPlaces(x, what, first, stride, many);
        checkDraws(x, what, first, stride, many);
    }

    private static void checkPlaces(CandidateRanges x, String what, BigInteger first, BigInteger stride, BigInteger many) {
        for (long v : EDGES) {
            BigInteger[] k = exactly(v).subtract(first).divideAndRemainder(stride);
            boolean in = k[1].signum() == 0 && k[0].signum() >= 0 && k[0].compareTo(many) < 0;
            due(what + ": place(" + v + ")", in ? k[0].longValueExact() : -1, x.place(v));
        }
        if (many.signum() == 0) {
            return;
        }
        BigInteger last = many.subtract(BigInteger.ONE);
        if (stride.multiply(last).abs().bitLength() == 64) {
            widest++;
            widestStrides += stride.bitLength() == 64 ? 1 : 0;
        }
        for (BigInteger k : new BigInteger[] {BigInteger.ZERO, last.shiftRight(1), last}) {
            long number = first.add(stride.multiply(k)).longValueExact();
            due(what + ": at(" + k + ")", number, x.at(k.longValueExact()));
            due(what + ": place(" + number + ")", k.longValueExact(), x.place(number));
        }
    }

    private static void checkDraws(CandidateRanges x, String what, BigInteger first, BigInteger stride, BigInteger many) {
        for (long n : EDGES) {
            if (many.signum() == 0) {
                due(what + ": draw(" + n + ") of none throws", 1, drawThrows(x, n) ? 1 : 0);
            } else {
                BigInteger k = withoutSign(n).mod(many);
                due(what + ": draw(" + n + ")", first.add(stride.multiply(k)).longValueExact(), x.draw(n));
            }
        }
    }

    private static boolean drawThrows(CandidateRanges x, long n) {
        try {
            x.draw(n);
            return false;
        } catch (IndexOutOfBoundsException e) {
            return true;
        }
    }

    public static void main(String[] args) {
        for (long low : EDGES) {
            for (long high : EDGES) {
                for (long step : EDGES) {
                    checkSpan(low, high, step);
                }
            }
        }
        due("some spans had too many", 1, refused > 50 ? 1 : 0);
        due("some ranges were wider than 63 bits", 1, widest > 500 ? 1 : 0);
        due("some strides were wider than 63 bits", 1, widestStrides > 5 ? 1 : 0);
        System.out.println("WideTests: " + checks + " checks, " + wrong + " wrong");
        if (wrong != 0) {
            System.exit(1);
        }
    }
}
