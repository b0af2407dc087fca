/**
 * Waves of pressure in a pipe, stepped from node to node and turned back at its ends; the laws by
 * which its valve may be closed; and pipes told in a text. ../shared/DOC.md says what each call does.
 *
 * <p>All rows are made in the constructors and used again, so that no later call makes an object.
 */
public final class SurgeLine {
    public static final int NONE = -1, BAD = -2, NO = -3, FULL = -4;

    private static final long BAD_LONG = -9000000000000000L;
    private static final int MOST_STATES = 4;
    private static final int MOST_STEPS = 100;
    private static final int MOST_BOUND = 9999;
    private static final int LAST_TIME = 999;
    private static final int LAST_ASKED_TIME = 9999;
    private static final int FAULT_BASE = -10;
    private static final int STOP_BASE = -1000;

    private final Line now = new Line();
    /** What trials run on, and what reads() falls back to: never of use from one call to the next. */
    private final Line spare = new Line();
    /** A ring: the newest state stands at newest, older ones before it. */
    private final Line[] kept = new Line[MOST_STATES];
    private int newest = 0;
    private int states = 0;
    /** How often refused: BAD, NO, FULL. */
    private final int[] refused = new int[3];
    private final Page page = new Page();

    public SurgeLine() {
        for (int i = 0; i < MOST_STATES; i++) {
            kept[i] = new Line();
        }
    }

    // ---- the pipe

    public int pipe(int n) {
        return change(Line.N, n);
    }

    public int sets(int what, int v) {
        if (what < 0 || what > 2) {
            return refuse(BAD);
        }
        return change(Line.H + what, v);
    }

    public int ends(int which, int e) {
        if (which < 0 || which > 1) {
            return refuse(BAD);
        }
        return change(Line.LEFT + which, e);
    }

    public int law(int k, int t) {
        if (!Line.isLaw(k, t)) {
            return refuse(BAD);
        }
        keep(now);
        int was = now.values[Line.LAW];
        now.govern(k, t);
        return was;
    }

    public int steady() {
        keep(now);
        int was = now.values[Line.TIME];
        now.settle();
        return was;
    }

    public int steps(int n) {
        if (!isStepCount(n)) {
            return refuse(BAD);
        }
        if (!hasTimeFor(n)) {
            return refuse(FULL);
        }
        keep(now);
        now.advance(n);
        return now.values[Line.TIME];
    }

    public long node(int i, int what) {
        if (!now.hasNode(i) || what < 0 || what > 5) {
            return refuseLong();
        }
        switch (what) {
            case 0: return thousandfold(now.pressure(i));
            case 1: return thousandfold(now.forward[i] - now.backward[i]);
            case 2: return thousandfold(now.forward[i]);
            case 3: return thousandfold(now.backward[i]);
            case 4: return thousandfold(now.greatest[i]);
            default: return thousandfold(now.least[i]);
        }
    }

    public long all(int what) {
        switch (what) {
            case 0: return thousandfold(now.sumOfSquares());
            case 1: return thousandfold(now.highest);
            case 2: return thousandfold(now.lowest);
            // Only a TANK moves the level, and whatever takes the TANK away makes it H again.
            case 3: return thousandfold(now.level);
            default: return refuseLong();
        }
    }

    public long bits(int i) {
        if (!now.hasNode(i)) {
            return refuseLong();
        }
        return bitsOf(now.pressure(i));
    }

    // ---- laws

    public long lets(int k, int t, int time) {
        if (!Line.isLaw(k, t) || time < 0 || time > LAST_ASKED_TIME) {
            return refuseLong();
        }
        return thousandfold(Line.letBy(k, now.values[Line.Q], t, time));
    }

    public long trial(int k, int t, int m) {
        if (!Line.isLaw(k, t) || !isTrialLength(m)) {
            return refuseLong();
        }
        spare.tryOut(now, k, t);
        spare.advance(m);
        return thousandfold(spare.highest);
    }

    public int soonest(int k, int b, int m) {
        if (!Line.fits(Line.LAW, k) || !isBound(b) || !isTrialLength(m)) {
            return refuse(BAD);
        }
        for (int t = 1; t <= Line.MOST_T; t++) {
            if (staysWithin(k, t, b, m)) {
                return t;
            }
        }
        return NONE;
    }

    public int best(int b, int m, int what) {
        if (!isBound(b) || !isTrialLength(m) || what < 0 || what > 1) {
            return refuse(BAD);
        }
        // T outside, laws inside: so the first that serves has the least T, and of like ones the least law.
        for (int t = 1; t <= Line.MOST_T; t++) {
            for (int k = Line.AT_ONCE; k <= Line.HALVES; k++) {
                if (staysWithin(k, t, b, m)) {
                    return what == 0 ? k : t;
                }
            }
        }
        return NONE;
    }

    // ---- texts

    public int type(int c) {
        if (c < 0 || c > 127) {
            return refuse(BAD);
        }
        if (!page.append(c)) {
            return refuse(FULL);
        }
        return page.length;
    }

    public int clear() {
        int had = page.length;
        page.length = 0;
        return had;
    }

    public int reads() {
        int fault = page.findFault();
        if (fault != NONE) {
            return FAULT_BASE - fault;
        }
        spare.copyFrom(now);
        page.rewind();
        for (int i = 0; i < page.orders; i++) {
            if (!page.nextOrder() || !obey(page.letter, page.first, page.second)) {
                now.copyFrom(spare);
                return STOP_BASE - i;
            }
        }
        keep(spare);
        return page.orders;
    }

    public int back() {
        if (states == 0) {
            return refuse(NO);
        }
        now.copyFrom(kept[newest]);
        newest = (newest + MOST_STATES - 1) % MOST_STATES;
        states--;
        return states;
    }

    public int told(int what) {
        if (what < 0 || what > 13) {
            return refuse(BAD);
        }
        if (what < 3) {
            return refused[what];
        }
        if (what == 3) {
            return page.length;
        }
        return what == 13 ? states : now.values[what - 4];
    }

    public long digest() {
        long h = 2549;
        for (int what = 0; what <= 13; what++) {
            h = 31 * h + told(what);
        }
        for (int i = 0; i <= now.values[Line.N]; i++) {
            for (int what = 0; what <= 5; what++) {
                h = 31 * h + node(i, what);
            }
            h = 31 * h + bits(i);
        }
        for (int what = 0; what <= 3; what++) {
            h = 31 * h + all(what);
        }
        return 31 * h + trial(Line.EVEN, now.values[Line.T], 20);
    }

    // ---- what the calls share

    private int refuse(int why) {
        refused[why == BAD ? 0 : why == NO ? 1 : 2]++;
        return why;
    }

    private long refuseLong() {
        refuse(BAD);
        return BAD_LONG;
    }

    private void keep(Line line) {
        newest = (newest + 1) % MOST_STATES;
        kept[newest].copyFrom(line);
        if (states < MOST_STATES) {
            states++;
        }
    }

    private int change(int which, int v) {
        if (!Line.fits(which, v)) {
            return refuse(BAD);
        }
        keep(now);
        int was = now.values[which];
        now.put(which, v);
        return was;
    }

    private static boolean isStepCount(int n) {
        return n >= 1 && n <= MOST_STEPS;
    }

    private static boolean isTrialLength(int m) {
        return m >= 0 && m <= MOST_STEPS;
    }

    private static boolean isBound(int b) {
        return b >= -MOST_BOUND && b <= MOST_BOUND;
    }

    private boolean hasTimeFor(int n) {
        return now.values[Line.TIME] + n <= LAST_TIME;
    }

    /** Stops at the first step above the bound: what comes behind it can not lower the greatest. */
    private boolean staysWithin(int k, int t, int b, int m) {
        double bound = b;
        spare.tryOut(now, k, t);
        for (int i = 0; i < m && spare.highest <= bound; i++) {
            spare.advance(1);
        }
        return spare.highest <= bound;
    }

    /** Does one order, or answers false if its call would refuse: its answer tells not, as Q may have been -2. */
    private boolean obey(int letter, int first, int second) {
        if (letter == 's') {
            if (!isStepCount(first) || !hasTimeFor(first)) {
                return false;
            }
            now.advance(first);
            return true;
        }
        if (letter == 'w') {
            if (!Line.isLaw(first, second)) {
                return false;
            }
            now.govern(first, second);
            return true;
        }
        int which = Page.valueNamed(letter);
        if (!Line.fits(which, first)) {
            return false;
        }
        now.put(which, first);
        return true;
    }

    private static long thousandfold(double x) {
        return (long) (1000.0 * x);
    }

    /**
     * The bits of a double, found by doubling alone, which loses nothing. A pressure lies far below
     * 2 to the 53rd (a step adds some 20000 at most, and there are 999), and it is never -0: H and Q
     * are whole numbers, and a difference of like doubles is +0.
     */
    private static long bitsOf(double x) {
        if (x == 0.0) {
            return 0L;
        }
        long hidden = 1L << 52;
        double m = x < 0.0 ? -x : x;
        int exponent = 1075;
        while (m < (double) hidden && exponent > 1) {
            m = m * 2.0;
            exponent--;
        }
        long whole = (long) m;
        // Without the hidden bit stand the smallest doubles, whose exponent is told as 0.
        long bits = whole < hidden ? whole : ((long) exponent << 52) + (whole - hidden);
        return x < 0.0 ? bits | (1L << 63) : bits;
    }

    /** A pipe with its waves: all that a state keeps. */
    private static final class Line {
        /** Places in values, in the order in which told() tells them. */
        static final int N = 0, H = 1, Q = 2, A = 3, LEFT = 4, RIGHT = 5, LAW = 6, T = 7, TIME = 8;
        static final int AT_ONCE = 1, EVEN = 2, LATE = 3, HALVES = 4, SWAY = 5;
        static final int MOST_T = 60;

        private static final int LEFT_LAKE = 0;
        private static final int VALVE = 0, RIGHT_LAKE = 1, RIGHT_WALL = 2;
        private static final int MOST_NODES = 11;
        private static final int[] LEAST_OF = {1, 0, -100, 1, 0, 0, 0, 1};
        private static final int[] MOST_OF = {10, 1000, 100, 99, 1, 3, 5, 60};

        final int[] values = {4, 100, 20, 5, 0, 0, 0, 10, 0};
        final double[] forward = new double[MOST_NODES];
        final double[] backward = new double[MOST_NODES];
        final double[] greatest = new double[MOST_NODES];
        final double[] least = new double[MOST_NODES];
        double highest;
        double lowest;
        double level;

        Line() {
            settle();
        }

        static boolean fits(int which, int v) {
            return which >= 0 && which < LEAST_OF.length && v >= LEAST_OF[which] && v <= MOST_OF[which];
        }

        static boolean isLaw(int k, int t) {
            return fits(LAW, k) && fits(T, t);
        }

        /** What law k with t lets at a time. */
        static double letBy(int k, int q, int t, int time) {
            double flow = q;
            double span = t;
            double at = time;
            boolean open = time < t;
            switch (k) {
                case AT_ONCE: return open ? flow : 0.0;
                case EVEN: return open ? flow * (span - at) / span : 0.0;
                case LATE: return open ? flow * (span * span - at * at) / (span * span) : 0.0;
                case HALVES: return open ? flow / 2.0 : 0.0;
                case SWAY: return t > 0 && time / t % 2 != 0 ? flow / 2.0 : flow;
                default: return flow;
            }
        }

        boolean hasNode(int i) {
            return i >= 0 && i <= values[N];
        }

        double pressure(int i) {
            return forward[i] + backward[i];
        }

        double sumOfSquares() {
            double sum = 0.0;
            for (int i = 0; i <= values[N]; i++) {
                sum = sum + (forward[i] * forward[i] + backward[i] * backward[i]);
            }
            return sum;
        }

        void put(int which, int v) {
            values[which] = v;
            settle();
        }

        void govern(int k, int t) {
            values[LAW] = k;
            values[T] = t;
        }

        /** Becomes the other pipe, steady, with a valve under law k. */
        void tryOut(Line other, int k, int t) {
            System.arraycopy(other.values, 0, values, 0, values.length);
            values[RIGHT] = VALVE;
            govern(k, t);
            settle();
        }

        void copyFrom(Line other) {
            System.arraycopy(other.values, 0, values, 0, values.length);
            System.arraycopy(other.forward, 0, forward, 0, MOST_NODES);
            System.arraycopy(other.backward, 0, backward, 0, MOST_NODES);
            System.arraycopy(other.greatest, 0, greatest, 0, MOST_NODES);
            System.arraycopy(other.least, 0, least, 0, MOST_NODES);
            highest = other.highest;
            lowest = other.lowest;
            level = other.level;
        }

        void settle() {
            double h = values[H];
            double q = values[Q];
            values[TIME] = 0;
            level = h;
            for (int i = 0; i <= values[N]; i++) {
                forward[i] = (h + q) / 2.0;
                backward[i] = (h - q) / 2.0;
                greatest[i] = pressure(i);
                least[i] = pressure(i);
            }
            highest = pressure(0);
            lowest = pressure(0);
        }

        void advance(int count) {
            for (int i = 0; i < count; i++) {
                values[TIME]++;
                shift();
                turnLeft();
                turnRight();
                widenEnvelopes();
            }
        }

        private void shift() {
            int n = values[N];
            for (int i = n; i > 0; i--) {
                forward[i] = forward[i - 1];
            }
            for (int i = 0; i < n; i++) {
                backward[i] = backward[i + 1];
            }
        }

        private void turnLeft() {
            double h = values[H];
            forward[0] = values[LEFT] == LEFT_LAKE ? h - backward[0] : backward[0];
        }

        private void turnRight() {
            int n = values[N];
            double h = values[H];
            switch (values[RIGHT]) {
                case VALVE:
                    backward[n] = forward[n] - letBy(values[LAW], values[Q], values[T], values[TIME]);
                    break;
                case RIGHT_LAKE:
                    backward[n] = h - forward[n];
                    break;
                case RIGHT_WALL:
                    backward[n] = forward[n];
                    break;
                default:
                    backward[n] = level - forward[n];
                    fillTank(forward[n] - backward[n]);
                    break;
            }
        }

        private void fillTank(double inflow) {
            double width = values[A];
            double risen = level + inflow / width;
            level = risen > 10000.0 ? 10000.0 : risen < -10000.0 ? -10000.0 : risen;
        }

        private void widenEnvelopes() {
            for (int i = 0; i <= values[N]; i++) {
                double p = pressure(i);
                if (p > greatest[i]) {
                    greatest[i] = p;
                    highest = p > highest ? p : highest;
                }
                if (p < least[i]) {
                    least[i] = p;
                    lowest = p < lowest ? p : lowest;
                }
            }
        }
    }

    /** The text, and a place in it from which orders are taken one by one. */
    private static final class Page {
        private static final int MOST_BYTES = 100;
        private static final int MOST_FIGURES = 4;

        private final byte[] text = new byte[MOST_BYTES];
        int length = 0;
        /** How many orders the last findFault() without a fault went through. */
        int orders = 0;
        int letter = 0;
        int first = 0;
        int second = 0;
        private int place = 0;
        private int number = 0;

        Page() {
        }

        /** Which value of a Line an order's letter sets; NONE if it sets none alone. */
        static int valueNamed(int letter) {
            switch (letter) {
                case 'p': return Line.N;
                case 'h': return Line.H;
                case 'q': return Line.Q;
                case 'a': return Line.A;
                case 'l': return Line.LEFT;
                case 'r': return Line.RIGHT;
                default: return NONE;
            }
        }

        boolean append(int c) {
            if (length >= MOST_BYTES) {
                return false;
            }
            text[length] = (byte) c;
            length++;
            return true;
        }

        void rewind() {
            place = 0;
        }

        /** The place of the first byte that can not stand there; NONE. */
        int findFault() {
            rewind();
            for (orders = 0; orders < MOST_BYTES; orders++) {
                if (orders > 0 && place >= length) {
                    return NONE;
                }
                if (!nextOrder()) {
                    return place;
                }
            }
            return NONE;
        }

        /** Takes an order and the blanks round it; if it is faulty, false, and place is at the fault. */
        boolean nextOrder() {
            skipBlanks();
            letter = byteHere();
            if (letter != 'w' && letter != 's' && valueNamed(letter) == NONE) {
                return false;
            }
            place++;
            skipBlanks();
            if (!takeNumbers() || byteHere() != ';') {
                return false;
            }
            place++;
            skipBlanks();
            return true;
        }

        private boolean takeNumbers() {
            boolean minus = (letter == 'h' || letter == 'q') && byteHere() == '-';
            if (minus) {
                place++;
            }
            if (!takeNumber()) {
                return false;
            }
            first = minus ? -number : number;
            if (letter == 'w') {
                if (byteHere() != ' ') {
                    return false;
                }
                skipBlanks();
                if (!takeNumber()) {
                    return false;
                }
                second = number;
            }
            skipBlanks();
            return true;
        }

        private boolean takeNumber() {
            number = 0;
            int figures = 0;
            while (figures < MOST_FIGURES && byteHere() >= '0' && byteHere() <= '9') {
                number = number * 10 + (byteHere() - '0');
                place++;
                figures++;
            }
            return figures > 0;
        }

        private void skipBlanks() {
            while (place < length && text[place] == ' ') {
                place++;
            }
        }

        private int byteHere() {
            return place < length ? text[place] : NONE;
        }
    }
}
