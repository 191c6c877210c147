import java.util.Arrays;

/**
 * Facts of plane geometry that follow from others by rules of lines, circles, lengths and full
 * angles, all judged on an exact figure. The words in capitals are those of the document.
 */
public final class AngleChains {
    public static final int NONE = -1;
    public static final int FALSE = -2;

    private static final int MOST_POINTS = 7;
    /** A packed POINT has three bits: rows of this length hold whatever three bits may say. */
    private static final int POINT_CODES = 8;
    private static final int MOST_PAIRS = 21;
    private static final int MOST_COORDINATE = 1000;
    private static final int MOST_IN_DRAFT = 8;
    private static final int MOST_HYPOTHESES = 30;

    private static final int COLLINEAR = 0;
    private static final int PARALLEL = 1;
    private static final int PERPENDICULAR = 2;
    private static final int CIRCLE = 3;
    private static final int EQUAL = 4;
    private static final int MIDDLE = 5;
    private static final int ANGLE = 6;

    private static final int[] POINTS_OF_KIND = {3, 4, 4, 4, 4, 3, 8};

    /** The number of the pair of POINTS a and b, at 8 a + b: pairs are counted as 01, 02, .. 56. */
    private static final int[] PAIR_NUMBERS = {
        0, 0, 1, 2, 3, 4, 5, 0,
        0, 0, 6, 7, 8, 9, 10, 0,
        1, 6, 0, 11, 12, 13, 14, 0,
        2, 7, 11, 0, 15, 16, 17, 0,
        3, 8, 12, 15, 0, 18, 19, 0,
        4, 9, 13, 16, 18, 0, 20, 0,
        5, 10, 14, 17, 19, 20, 0, 0,
        0, 0, 0, 0, 0, 0, 0, 0
    };

    /** The two POINTS of each pair, as bits. */
    private static final int[] PAIR_BITS = {
        3, 5, 9, 17, 33, 65, 6, 10, 18, 34, 66, 12, 20, 36, 68, 24, 40, 72, 48, 80, 96
    };

    /** All sets of three POINTS, as bits. */
    private static final int[] TRIPLES = {
        7, 11, 13, 14, 19, 21, 22, 25, 26, 28, 35, 37, 38, 41, 42, 44, 49, 50, 52, 56,
        67, 69, 70, 73, 74, 76, 81, 82, 84, 88, 97, 98, 100, 104, 112
    };

    private final Figure figure = new Figure();
    private final int[] hypotheses = new int[MOST_HYPOTHESES];
    private final Deduction deduction = new Deduction(figure, hypotheses);
    private int hypothesisCount;
    private int onBits;
    private int leftBits;
    private int draft;
    private int draftCount;

    public AngleChains() {
    }

    public int point(int x, int y) {
        if (hypothesisCount > 0 || !figure.hasRoomAt(x, y)) {
            return NONE;
        }
        return figure.place(x, y);
    }

    public int of(int point) {
        if (!figure.has(point) || draftCount >= MOST_IN_DRAFT) {
            return NONE;
        }
        draft |= point << 3 * draftCount;
        draftCount++;
        return draftCount;
    }

    public int isTrue(int kind) {
        int fact = takeDraft(kind);
        if (fact == NONE) {
            return NONE;
        }
        return figure.holds(fact) ? 1 : 0;
    }

    public int fact(int kind) {
        int fact = takeDraft(kind);
        if (fact == NONE || hypothesisCount >= MOST_HYPOTHESES) {
            return NONE;
        }
        if (!figure.holds(fact)) {
            return FALSE;
        }
        int number = hypothesisCount;
        hypotheses[number] = fact;
        onBits |= 1 << number;
        hypothesisCount++;
        return number;
    }

    public boolean turn(int hypothesis, boolean on) {
        if (hypothesis < 0 || hypothesis >= hypothesisCount) {
            return false;
        }
        int bit = 1 << hypothesis;
        onBits = on ? onBits | bit : onBits & ~bit;
        return true;
    }

    public int follows(int kind) {
        int fact = takeDraft(kind);
        if (fact == NONE) {
            return NONE;
        }
        if (!figure.holds(fact)) {
            return FALSE;
        }
        deduction.close(onBits);
        return deduction.shows(fact) ? 1 : 0;
    }

    public int needs(int kind) {
        int fact = takeDraft(kind);
        if (fact == NONE) {
            return NONE;
        }
        if (!figure.holds(fact)) {
            return FALSE;
        }
        leftBits = 0;
        deduction.close(onBits);
        if (!deduction.shows(fact)) {
            return 0;
        }
        // More HYPOTHESES never take away what FOLLOWS. So, when all come one by one from the first
        // on behind those that must stay, the one that brings the FACT is the next that must stay,
        // and those behind it are left out.
        int left = 0;
        deduction.close(left);
        for (int round = 0; round < hypothesisCount && !deduction.shows(fact); round++) {
            int bits = left;
            int newest = 0;
            for (int number = 0; number < hypothesisCount && !deduction.shows(fact); number++) {
                newest = onBits & 1 << number;
                bits |= newest;
                deduction.close(bits);
            }
            left |= newest;
            deduction.close(left);
        }
        leftBits = left;
        return Integer.bitCount(left);
    }

    public int need(int k) {
        int before = 0;
        for (int number = 0; number < MOST_HYPOTHESES; number++) {
            if ((leftBits >> number & 1) != 0) {
                if (before == k) {
                    return number;
                }
                before++;
            }
        }
        return NONE;
    }

    public int line(int a, int b) {
        if (!figure.has(a) || !figure.has(b) || a == b) {
            return 0;
        }
        deduction.close(onBits);
        return deduction.lineBits(a, b);
    }

    public int circle(int a, int b, int c) {
        if (!figure.has(a) || !figure.has(b) || !figure.has(c)) {
            return 0;
        }
        if (figure.areCollinear(a, b, c)) {
            return 0;
        }
        deduction.close(onBits);
        return deduction.circleBits(a, b, c);
    }

    public int length(int a, int b) {
        if (!figure.has(a) || !figure.has(b) || a == b) {
            return NONE;
        }
        deduction.close(onBits);
        return deduction.leastPair(a, b);
    }

    public int told(int what) {
        if (what >= 4 && what <= 7) {
            deduction.close(onBits);
        }
        switch (what) {
            case 0:
                return figure.size;
            case 1:
                return hypothesisCount;
            case 2:
                return Integer.bitCount(onBits);
            case 3:
                return draftCount;
            case 4:
                return deduction.countLines();
            case 5:
                return deduction.countWideCircles();
            case 6:
                return deduction.countLengths();
            case 7:
                return deduction.countRows();
            default:
                return NONE;
        }
    }

    /** Empties THE DRAFT; answers it as a packed FACT, NONE when it is none of this kind. */
    private int takeDraft(int kind) {
        int points = draft;
        int count = draftCount;
        draft = 0;
        draftCount = 0;
        if (kind < 0 || kind >= POINTS_OF_KIND.length || count != POINTS_OF_KIND[kind]) {
            return NONE;
        }
        int fact = kind << 24 | points;
        boolean differs = kind == COLLINEAR || kind == CIRCLE || kind == MIDDLE
            ? Integer.bitCount(bitsOf(fact, count)) == count
            : hasPairsOfTwo(fact, count);
        return differs ? fact : NONE;
    }

    private static boolean hasPairsOfTwo(int fact, int count) {
        for (int place = 0; place + 1 < count; place += 2) {
            if (at(fact, place) == at(fact, place + 1)) {
                return false;
            }
        }
        return true;
    }

    /** FACTS and cases of RULES are packed alike: three bits for each POINT, the kind above 24. */
    private static int at(int packed, int place) {
        return packed >> 3 * place & 7;
    }

    private static int kindOf(int packed) {
        return packed >> 24;
    }

    private static int bitsOf(int packed, int count) {
        int bits = 0;
        for (int place = 0; place < count; place++) {
            bits |= 1 << at(packed, place);
        }
        return bits;
    }

    private static int pairOf(int a, int b) {
        return PAIR_NUMBERS[POINT_CODES * a + b];
    }

    /** The number of the pair of the POINTS at two places of something packed. */
    private static int pairAt(int packed, int place, int other) {
        return pairOf(at(packed, place), at(packed, other));
    }

    /** THE FIGURE: the places of the POINTS, and what is TRUE there. */
    private static final class Figure {
        private final int[] xs = new int[POINT_CODES];
        private final int[] ys = new int[POINT_CODES];
        private int size;

        boolean has(int point) {
            return point >= 0 && point < size;
        }

        boolean hasRoomAt(int x, int y) {
            if (size >= MOST_POINTS || !isCoordinate(x) || !isCoordinate(y)) {
                return false;
            }
            for (int p = 0; p < size; p++) {
                if (xs[p] == x && ys[p] == y) {
                    return false;
                }
            }
            return true;
        }

        private static boolean isCoordinate(int value) {
            return value >= -MOST_COORDINATE && value <= MOST_COORDINATE;
        }

        /** Only where hasRoomAt() is so. */
        int place(int x, int y) {
            int number = size;
            xs[number] = x;
            ys[number] = y;
            size++;
            return number;
        }

        long cross(int a, int b, int c, int d) {
            return (long) (xs[b] - xs[a]) * (ys[d] - ys[c]) - (long) (ys[b] - ys[a]) * (xs[d] - xs[c]);
        }

        long dot(int a, int b, int c, int d) {
            return (long) (xs[b] - xs[a]) * (xs[d] - xs[c]) + (long) (ys[b] - ys[a]) * (ys[d] - ys[c]);
        }

        boolean areCollinear(int a, int b, int c) {
            return cross(a, b, a, c) == 0;
        }

        boolean areEqual(int a, int b, int c, int d) {
            return dot(a, b, a, b) == dot(c, d, c, d);
        }

        boolean isMiddle(int m, int a, int b) {
            return 2 * xs[m] == xs[a] + xs[b] && 2 * ys[m] == ys[a] + ys[b];
        }

        /** The POINT in the middle of a and b, or NONE. */
        int middleOf(int a, int b) {
            for (int m = 0; m < size; m++) {
                if (isMiddle(m, a, b)) {
                    return m;
                }
            }
            return NONE;
        }

        /** For different POINTS: four on a line make the determinant 0 too, but have no circle. */
        boolean areOnCircle(int a, int b, int c, int d) {
            long determinant = dot(d, a, d, a) * cross(d, b, d, c)
                - dot(d, b, d, b) * cross(d, a, d, c)
                + dot(d, c, d, c) * cross(d, a, d, b);
            return determinant == 0 && !areCollinear(a, b, c);
        }

        /** d stands over against a, and their lines meet at a corner at all. */
        boolean isParallelogram(int a, int b, int c, int d) {
            return xs[a] + xs[d] == xs[b] + xs[c] && ys[a] + ys[d] == ys[b] + ys[c]
                && !areCollinear(a, b, c);
        }

        private boolean hasLikeTurns(int fact) {
            int a = at(fact, 0);
            int b = at(fact, 1);
            int c = at(fact, 2);
            int d = at(fact, 3);
            int e = at(fact, 4);
            int f = at(fact, 5);
            int g = at(fact, 6);
            int h = at(fact, 7);
            return dot(a, b, c, d) * cross(e, f, g, h) == cross(a, b, c, d) * dot(e, f, g, h);
        }

        boolean holds(int fact) {
            int a = at(fact, 0);
            int b = at(fact, 1);
            int c = at(fact, 2);
            int d = at(fact, 3);
            switch (kindOf(fact)) {
                case COLLINEAR:
                    return areCollinear(a, b, c);
                case PARALLEL:
                    return cross(a, b, c, d) == 0;
                case PERPENDICULAR:
                    return dot(a, b, c, d) == 0;
                case CIRCLE:
                    return areOnCircle(a, b, c, d);
                case EQUAL:
                    return areEqual(a, b, c, d);
                case MIDDLE:
                    return isMiddle(a, b, c);
                case ANGLE:
                    return hasLikeTurns(fact);
                default:
                    return false;
            }
        }
    }

    /**
     * The cases of the RULES that THE FIGURE allows. HYPOTHESES are TRUE and no RULE leads from
     * what is TRUE to what is not, so a case whose FACTS are not TRUE can never come to pass, and
     * is left out here once for all.
     */
    private static final class Cases {
        /** Three POINTS a b c that may be on one LINE: RULE 1. */
        private static final int ONE_LINE = 0;
        /** Four POINTS a b c d that may be on one CIRCLE: RULES 2 and 3. */
        private static final int ONE_CIRCLE = 1;
        /** a and b c: |ab| = |ac|: RULES 4 and 5. */
        private static final int ISOSCELES = 2;
        /** o, a b, c: c on the circle round o with the diameter ab: RULES 6 and 7. */
        private static final int DIAMETER = 3;
        /** o and a b c d at one distance from it: RULE 8. */
        private static final int CENTRE = 4;
        /** p q, a b: |pa| = |pb|, |qa| = |qb|: RULES 9 and 10. */
        private static final int BISECTOR = 5;
        /** a, b c, m n: m the middle of a and b, n that of a and c: RULE 11. */
        private static final int MIDLINE = 6;
        /** a b c d: ab and cd, ac and bd PARALLEL: RULE 12. */
        private static final int PARALLELOGRAM = 7;

        /**
         * 35 triples give at most 3 ISOSCELES or one ONE_LINE each, and 3 MIDLINES; 35 fours at
         * most one ONE_CIRCLE, one CENTRE, 3 PARALLELOGRAMS; 21 pairs at most 4 DIAMETERS and 10
         * BISECTORS: 679 in all.
         */
        private static final int MOST = 679;

        private final Figure figure;
        private final int[] packed = new int[MOST];
        private int count;

        Cases(Figure figure) {
            this.figure = figure;
        }

        void find() {
            count = 0;
            int size = figure.size;
            for (int a = 0; a < size; a++) {
                for (int b = a + 1; b < size; b++) {
                    findBisectors(a, b);
                    for (int c = b + 1; c < size; c++) {
                        findOfThree(a, b, c);
                        for (int d = c + 1; d < size; d++) {
                            findOfFour(a, b, c, d);
                        }
                    }
                }
            }
        }

        private void add(int rule, int a, int b, int c, int d, int e) {
            if (count < MOST) {
                packed[count] = rule << 24 | e << 12 | d << 9 | c << 6 | b << 3 | a;
                count++;
            }
        }

        private void findOfThree(int a, int b, int c) {
            if (figure.areCollinear(a, b, c)) {
                add(ONE_LINE, a, b, c, 0, 0);
            } else {
                findAtCorner(a, b, c);
                findAtCorner(b, a, c);
                findAtCorner(c, a, b);
            }
        }

        private void findAtCorner(int a, int b, int c) {
            if (figure.areEqual(a, b, a, c)) {
                add(ISOSCELES, a, b, c, 0, 0);
            }
            int o = figure.middleOf(b, c);
            if (o != NONE && figure.areEqual(o, b, o, a)) {
                add(DIAMETER, o, b, c, a, 0);
            }
            int m = figure.middleOf(a, b);
            int n = figure.middleOf(a, c);
            if (m != NONE && n != NONE) {
                add(MIDLINE, a, b, c, m, n);
            }
        }

        private void findOfFour(int a, int b, int c, int d) {
            if (figure.areOnCircle(a, b, c, d)) {
                add(ONE_CIRCLE, a, b, c, d, 0);
                findCentre(a, b, c, d);
            }
            findParallelogram(a, b, c, d);
            findParallelogram(a, b, d, c);
            findParallelogram(a, c, d, b);
        }

        private void findCentre(int a, int b, int c, int d) {
            for (int o = 0; o < figure.size; o++) {
                if (figure.areEqual(o, a, o, b) && figure.areEqual(o, a, o, c)) {
                    add(CENTRE, o, a, b, c, d);
                }
            }
        }

        private void findParallelogram(int a, int b, int c, int d) {
            if (figure.isParallelogram(a, b, c, d)) {
                add(PARALLELOGRAM, a, b, c, d, 0);
            }
        }

        private void findBisectors(int a, int b) {
            for (int p = 0; p < figure.size; p++) {
                if (figure.areEqual(p, a, p, b)) {
                    for (int q = p + 1; q < figure.size; q++) {
                        if (figure.areEqual(q, a, q, b)) {
                            add(BISECTOR, p, q, a, b, 0);
                        }
                    }
                }
            }
        }
    }

    /**
     * The ROWS that follow, as all sums of whole multiples of a basis. The basis is kept as stairs:
     * the row at c has its first number at column c (all 0: there is no such row), positive, and
     * the numbers above it in that column are smaller and not negative.
     *
     * No number outgrows a long. In each row that comes, those above 0 make 2 at most, those below
     * as much, and together they are 0: so 20 rows at most are independent, and by Schinzel's
     * inequality their minors are 2^20 at most. The product of the stairs' first numbers divides such
     * a minor; from this a settled row has none beyond 2^20, and on the way there none is beyond
     * 2^52, as long as a row is settled before it changes places with a stair.
     */
    private static final class Rows {
        /** The place of the 0 or 1 behind the numbers. */
        private static final int SIDE = MOST_PAIRS;
        /** Each two divisions halve a number, so this is beyond what a long can need. */
        private static final int MOST_DIVISIONS = 200;

        private final long[][] basis = new long[MOST_PAIRS][MOST_PAIRS + 1];
        private final long[] row = new long[MOST_PAIRS + 1];
        private int rank;
        private boolean hasGrown;

        void clear() {
            rank = 0;
            for (int c = 0; c < MOST_PAIRS; c++) {
                Arrays.fill(basis[c], 0);
            }
        }

        void writeDifference(int p, int q, int side) {
            Arrays.fill(row, 0);
            row[p]++;
            row[q]--;
            row[SIDE] = side;
        }

        void writeTurns(int p, int q, int r, int s) {
            Arrays.fill(row, 0);
            row[p]++;
            row[q]--;
            row[r]--;
            row[s]++;
        }

        /** Whether the row written last follows; it is used up by this. */
        boolean haveWritten() {
            for (int c = 0; c < MOST_PAIRS; c++) {
                if (row[c] != 0) {
                    long lead = basis[c][c];
                    if (lead == 0 || row[c] % lead != 0) {
                        return false;
                    }
                    subtract(row, row[c] / lead, c);
                }
            }
            return (row[SIDE] & 1) == 0;
        }

        /**
         * The row written last comes to the others. By Euclid's way the common divisor of both
         * first numbers goes to the basis, and the row is left with 0.
         */
        void takeWritten() {
            boolean isNew = false;
            for (int c = 0; c < MOST_PAIRS; c++) {
                for (int step = 0; step < MOST_DIVISIONS && row[c] != 0; step++) {
                    long lead = basis[c][c];
                    if (lead == 0) {
                        rank++;
                    } else {
                        subtract(row, row[c] / lead, c);
                    }
                    if (row[c] != 0) {
                        settle(row, c + 1);
                        swapWithBasis(c);
                        isNew = true;
                    }
                }
            }
            if (isNew) {
                hasGrown = true;
                // From the lowest stair up: so numbers are taken off by rows that are small already.
                for (int c = MOST_PAIRS - 1; c >= 0; c--) {
                    settle(basis[c], c + 1);
                }
            }
        }

        /** Puts the row in the basis at c, its first number positive, and has what was there. */
        private void swapWithBasis(int c) {
            long sign = row[c] < 0 ? -1 : 1;
            long[] stair = basis[c];
            for (int j = c; j < MOST_PAIRS; j++) {
                long old = stair[j];
                stair[j] = sign * row[j];
                row[j] = old;
            }
            long oldSide = stair[SIDE];
            stair[SIDE] = row[SIDE];
            row[SIDE] = oldSide;
        }

        /** Makes a row's numbers small, from a column on, where there are stairs. */
        private void settle(long[] target, int from) {
            for (int c = from; c < MOST_PAIRS; c++) {
                long lead = basis[c][c];
                if (lead != 0) {
                    subtract(target, Math.floorDiv(target[c], lead), c);
                }
            }
        }

        private void subtract(long[] target, long times, int c) {
            if (times != 0) {
                long[] stair = basis[c];
                for (int j = c; j < MOST_PAIRS; j++) {
                    target[j] -= times * stair[j];
                }
                target[SIDE] = target[SIDE] - times * stair[SIDE] & 1;
            }
        }
    }

    /** WHAT FOLLOWS from some of the HYPOTHESES. */
    private static final class Deduction {
        private final Figure figure;
        private final int[] hypotheses;
        private final Cases cases;
        private final Rows rows = new Rows();
        /** The POINTS of the LINE of each pair, as bits. */
        private final int[] lineOf = new int[MOST_PAIRS];
        /** The column of the LINE of each pair in the ROWS: the number of the last pair on it. */
        private final int[] columnOf = new int[MOST_PAIRS];
        /** The least pair in the LENGTH of each pair. */
        private final int[] lengthOf = new int[MOST_PAIRS];
        /** The POINTS of the CIRCLE of each three POINTS, as bits, by their bits; 0: there is none. */
        private final int[] circleOf = new int[1 << POINT_CODES];
        /** The cases out of which something may still come. */
        private final int[] open = new int[Cases.MOST];
        private int openCount;
        private boolean hasJoined;
        private int closedSize = NONE;
        private int closedBits;

        Deduction(Figure figure, int[] hypotheses) {
            this.figure = figure;
            this.hypotheses = hypotheses;
            this.cases = new Cases(figure);
        }

        /**
         * Goes forward to the end from the HYPOTHESES whose bits are given: on from where it is,
         * when it came there from some of them.
         */
        void close(int bits) {
            if (closedSize != figure.size) {
                cases.find();
                start();
            } else if ((closedBits & ~bits) != 0) {
                start();
            }
            for (int number = 0; number < MOST_HYPOTHESES; number++) {
                if (((bits & ~closedBits) >> number & 1) != 0) {
                    assume(hypotheses[number]);
                }
            }
            closedBits = bits;
            // A round that brings anything new uses up a case, so these rounds are always enough.
            for (int round = 0; round <= Cases.MOST && (hasJoined || rows.hasGrown); round++) {
                hasJoined = false;
                rows.hasGrown = false;
                int kept = 0;
                for (int i = 0; i < openCount; i++) {
                    if (!usesUp(open[i])) {
                        open[kept] = open[i];
                        kept++;
                    }
                }
                openCount = kept;
            }
        }

        private void start() {
            closedSize = figure.size;
            closedBits = 0;
            rows.clear();
            for (int pair = 0; pair < MOST_PAIRS; pair++) {
                lineOf[pair] = PAIR_BITS[pair];
                columnOf[pair] = pair;
                lengthOf[pair] = pair;
            }
            for (int i = 0; i < TRIPLES.length; i++) {
                int bits = TRIPLES[i];
                circleOf[bits] = isProper(bits) ? bits : 0;
            }
            openCount = cases.count;
            System.arraycopy(cases.packed, 0, open, 0, openCount);
        }

        private boolean isProper(int three) {
            int a = Integer.numberOfTrailingZeros(three);
            int c = 31 - Integer.numberOfLeadingZeros(three);
            int b = Integer.numberOfTrailingZeros(three ^ 1 << a);
            return figure.has(c) && !figure.areCollinear(a, b, c);
        }

        private void assume(int fact) {
            switch (kindOf(fact)) {
                case COLLINEAR:
                    joinLine(bitsOf(fact, 3));
                    break;
                case CIRCLE:
                    joinCircle(bitsOf(fact, 4));
                    break;
                case EQUAL:
                    joinLengths(pairAt(fact, 0, 1), pairAt(fact, 2, 3));
                    break;
                case MIDDLE:
                    joinLine(bitsOf(fact, 3));
                    joinLengths(pairAt(fact, 0, 1), pairAt(fact, 0, 2));
                    break;
                default:
                    writeRowOf(fact);
                    rows.takeWritten();
                    break;
            }
        }

        boolean shows(int fact) {
            switch (kindOf(fact)) {
                case COLLINEAR:
                    return areOnLine(fact);
                case CIRCLE:
                    return areOnCircle(bitsOf(fact, 4));
                case EQUAL:
                    return areSame(pairAt(fact, 0, 1), pairAt(fact, 2, 3));
                case MIDDLE:
                    return isMiddle(at(fact, 0), at(fact, 1), at(fact, 2));
                default:
                    writeRowOf(fact);
                    return rows.haveWritten();
            }
        }

        private void writeRowOf(int fact) {
            int ab = pairAt(fact, 0, 1);
            int cd = pairAt(fact, 2, 3);
            switch (kindOf(fact)) {
                case PARALLEL:
                    writeDifference(ab, cd, 0);
                    break;
                case PERPENDICULAR:
                    writeDifference(ab, cd, 1);
                    break;
                default:
                    writeTurns(ab, cd, pairAt(fact, 4, 5), pairAt(fact, 6, 7));
                    break;
            }
        }

        private void writeDifference(int p, int q, int side) {
            rows.writeDifference(columnOf[p], columnOf[q], side);
        }

        private void writeTurns(int p, int q, int r, int s) {
            rows.writeTurns(columnOf[p], columnOf[q], columnOf[r], columnOf[s]);
        }

        private boolean haveDifference(int p, int q, int side) {
            writeDifference(p, q, side);
            return rows.haveWritten();
        }

        private boolean haveTurns(int p, int q, int r, int s) {
            writeTurns(p, q, r, s);
            return rows.haveWritten();
        }

        private boolean areSame(int pair, int other) {
            return lengthOf[pair] == lengthOf[other];
        }

        private boolean areOnLine(int packed) {
            return (lineOf[pairAt(packed, 0, 1)] >> at(packed, 2) & 1) != 0;
        }

        private boolean isMiddle(int m, int a, int b) {
            return areSame(pairOf(m, a), pairOf(m, b)) && (lineOf[pairOf(a, b)] >> m & 1) != 0;
        }

        private boolean areOnCircle(int four) {
            int three = four & four - 1;
            return (four & ~circleOf[three]) == 0;
        }

        /** All pairs keep their columns in the ROWS: a row says which of them are one LINE now. */
        private void joinLine(int bits) {
            int before = 0;
            int all = bits;
            for (int round = 0; round < MOST_POINTS && all != before; round++) {
                before = all;
                for (int pair = 0; pair < MOST_PAIRS; pair++) {
                    if (Integer.bitCount(lineOf[pair] & all) >= 2) {
                        all |= lineOf[pair];
                    }
                }
            }
            int last = NONE;
            for (int pair = MOST_PAIRS - 1; pair >= 0; pair--) {
                if ((PAIR_BITS[pair] & ~all) == 0) {
                    if (last == NONE) {
                        last = pair;
                    } else if (columnOf[pair] == pair) {
                        rows.writeDifference(pair, last, 0);
                        rows.takeWritten();
                        hasJoined = true;
                    }
                    columnOf[pair] = last;
                    lineOf[pair] = all;
                }
            }
        }

        private void joinCircle(int bits) {
            int before = 0;
            int all = bits;
            for (int round = 0; round < MOST_POINTS && all != before; round++) {
                before = all;
                for (int i = 0; i < TRIPLES.length; i++) {
                    int other = circleOf[TRIPLES[i]];
                    if (Integer.bitCount(other & all) >= 3) {
                        all |= other;
                    }
                }
            }
            for (int i = 0; i < TRIPLES.length; i++) {
                int three = TRIPLES[i];
                if ((three & ~all) == 0 && circleOf[three] != all && circleOf[three] != 0) {
                    circleOf[three] = all;
                    hasJoined = true;
                }
            }
        }

        private void joinLengths(int pair, int other) {
            int low = Math.min(lengthOf[pair], lengthOf[other]);
            int high = Math.max(lengthOf[pair], lengthOf[other]);
            if (low != high) {
                for (int i = 0; i < MOST_PAIRS; i++) {
                    if (lengthOf[i] == high) {
                        lengthOf[i] = low;
                    }
                }
                hasJoined = true;
            }
        }

        /** Tries a case of a RULE; whether nothing more can come out of it. */
        private boolean usesUp(int packed) {
            switch (kindOf(packed)) {
                case Cases.ONE_LINE:
                    return triesLine(packed);
                case Cases.ONE_CIRCLE:
                    return triesCircle(packed);
                case Cases.ISOSCELES:
                    return triesIsosceles(packed);
                case Cases.DIAMETER:
                    return triesDiameter(packed);
                case Cases.CENTRE:
                    return triesCentre(packed);
                case Cases.BISECTOR:
                    return triesBisector(packed);
                case Cases.MIDLINE:
                    return triesMidline(packed);
                case Cases.PARALLELOGRAM:
                    return triesParallelogram(packed);
                default:
                    return true;
            }
        }

        private boolean triesLine(int packed) {
            if (areOnLine(packed)) {
                return true;
            }
            int ab = pairAt(packed, 0, 1);
            int ac = pairAt(packed, 0, 2);
            int bc = pairAt(packed, 1, 2);
            if (haveDifference(ab, ac, 0) || haveDifference(ab, bc, 0) || haveDifference(ac, bc, 0)) {
                joinLine(bitsOf(packed, 3));
                return true;
            }
            return false;
        }

        /**
         * Other orders of the four POINTS give one of three rows again, or what it is times -1; and
         * the third is the difference of the two that are taken.
         */
        private boolean triesCircle(int packed) {
            int ab = pairAt(packed, 0, 1);
            int ac = pairAt(packed, 0, 2);
            int ad = pairAt(packed, 0, 3);
            int bc = pairAt(packed, 1, 2);
            int bd = pairAt(packed, 1, 3);
            int cd = pairAt(packed, 2, 3);
            int four = bitsOf(packed, 4);
            if (!areOnCircle(four)) {
                if (!haveTurns(ac, bc, ad, bd) && !haveTurns(ab, bc, ad, cd) && !haveTurns(ab, bd, ac, cd)) {
                    return false;
                }
                joinCircle(four);
            }
            writeTurns(ac, bc, ad, bd);
            rows.takeWritten();
            writeTurns(ab, bc, ad, cd);
            rows.takeWritten();
            return true;
        }

        /** For RULES that lead both ways between the row written last and two pairs of one LENGTH. */
        private boolean linksRowTo(int pair, int other) {
            if (areSame(pair, other)) {
                rows.takeWritten();
                return true;
            }
            if (rows.haveWritten()) {
                joinLengths(pair, other);
                return true;
            }
            return false;
        }

        private boolean triesIsosceles(int packed) {
            int ab = pairAt(packed, 0, 1);
            int ac = pairAt(packed, 0, 2);
            int bc = pairAt(packed, 1, 2);
            writeTurns(ab, bc, bc, ac);
            return linksRowTo(ab, ac);
        }

        private boolean triesDiameter(int packed) {
            int o = at(packed, 0);
            int a = at(packed, 1);
            int b = at(packed, 2);
            int c = at(packed, 3);
            if (!isMiddle(o, a, b)) {
                return false;
            }
            writeDifference(pairOf(a, c), pairOf(b, c), 1);
            return linksRowTo(pairOf(o, a), pairOf(o, c));
        }

        private boolean triesCentre(int packed) {
            int oa = pairAt(packed, 0, 1);
            if (!areSame(oa, pairAt(packed, 0, 2)) || !areSame(oa, pairAt(packed, 0, 3))
                || !areSame(oa, pairAt(packed, 0, 4))) {
                return false;
            }
            int four = bitsOf(packed >> 3, 4);
            if (!areOnCircle(four)) {
                joinCircle(four);
            }
            return true;
        }

        private boolean triesBisector(int packed) {
            int pa = pairAt(packed, 0, 2);
            int pb = pairAt(packed, 0, 3);
            int qa = pairAt(packed, 1, 2);
            int qb = pairAt(packed, 1, 3);
            boolean isAtP = areSame(pa, pb);
            if (!isAtP && !areSame(qa, qb)) {
                return false;
            }
            writeDifference(pairAt(packed, 0, 1), pairAt(packed, 2, 3), 1);
            return isAtP ? linksRowTo(qa, qb) : linksRowTo(pa, pb);
        }

        private boolean triesMidline(int packed) {
            int a = at(packed, 0);
            int b = at(packed, 1);
            int c = at(packed, 2);
            int m = at(packed, 3);
            int n = at(packed, 4);
            if (!isMiddle(m, a, b) || !isMiddle(n, a, c)) {
                return false;
            }
            writeDifference(pairOf(m, n), pairOf(b, c), 0);
            rows.takeWritten();
            return true;
        }

        private boolean triesParallelogram(int packed) {
            int ab = pairAt(packed, 0, 1);
            int cd = pairAt(packed, 2, 3);
            int ac = pairAt(packed, 0, 2);
            int bd = pairAt(packed, 1, 3);
            if (areSame(ab, cd) && areSame(ac, bd)) {
                return true;
            }
            if (!haveDifference(ab, cd, 0) || !haveDifference(ac, bd, 0)) {
                return false;
            }
            joinLengths(ab, cd);
            joinLengths(ac, bd);
            return true;
        }

        int lineBits(int a, int b) {
            return lineOf[pairOf(a, b)];
        }

        int circleBits(int a, int b, int c) {
            return circleOf[1 << a | 1 << b | 1 << c];
        }

        int leastPair(int a, int b) {
            int bits = PAIR_BITS[lengthOf[pairOf(a, b)]];
            int low = Integer.numberOfTrailingZeros(bits);
            int high = 31 - Integer.numberOfLeadingZeros(bits);
            return 12 * low + high;
        }

        /** The rows have room for seven POINTS, but pairs with one that is not there do not count. */
        private boolean isThere(int pair) {
            return PAIR_BITS[pair] < 1 << figure.size;
        }

        int countLines() {
            int count = 0;
            for (int pair = 0; pair < MOST_PAIRS; pair++) {
                if (isThere(pair) && columnOf[pair] == pair) {
                    count++;
                }
            }
            return count;
        }

        int countLengths() {
            int count = 0;
            for (int pair = 0; pair < MOST_PAIRS; pair++) {
                if (isThere(pair) && lengthOf[pair] == pair) {
                    count++;
                }
            }
            return count;
        }

        /** A CIRCLE is counted at its three lowest POINTS. */
        int countWideCircles() {
            int count = 0;
            for (int i = 0; i < TRIPLES.length; i++) {
                int rest = circleOf[TRIPLES[i]] & ~TRIPLES[i];
                if (Integer.lowestOneBit(rest) > TRIPLES[i]) {
                    count++;
                }
            }
            return count;
        }

        /** The rows that only say that LINES are one are of no LINES that are left. */
        int countRows() {
            int gone = 0;
            for (int pair = 0; pair < MOST_PAIRS; pair++) {
                if (columnOf[pair] != pair) {
                    gone++;
                }
            }
            return rows.rank - gone;
        }
    }
}
