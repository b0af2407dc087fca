import java.util.ArrayList;
import java.util.Arrays;
import java.util.List;
import java.util.Random;
import java.util.regex.Matcher;
import java.util.regex.Pattern;

/**
 * Seeded runs of calls, answered by SurgeLine and by a model built another way: the model keeps
 * all that the ends ever sent out and finds each wave by how long ago it left its end; it finds
 * faults of a text by a pattern, and bits by the library.
 */
public final class ModelTest {
    private static final int RUNS = 1500;
    private static final int CALLS = 512;
    private static final long BAD_LONG = -9000000000000000L;

    /** A pipe, never changed once it stands; a change answers another one. */
    private static final class Pipe implements Cloneable {
        int n = 4, h = 100, q = 20, a = 5, left = 0, right = 0, law = 0, t = 10;
        double level = 100;
        double[] fromLeft = {60};
        double[] fromRight = {40};

        int time() {
            return fromLeft.length - 1;
        }

        double f(int i, int when) {
            return fromLeft[Math.max(0, when - i)];
        }

        double b(int i, int when) {
            return fromRight[Math.max(0, when - (n - i))];
        }

        double pressure(int i, int when) {
            return f(i, when) + b(i, when);
        }

        Pipe copy() {
            try {
                return (Pipe) clone();
            } catch (CloneNotSupportedException e) {
                throw new AssertionError(e);
            }
        }

        Pipe settled() {
            Pipe p = copy();
            p.level = h;
            p.fromLeft = new double[] {((double) h + (double) q) / 2};
            p.fromRight = new double[] {((double) h - (double) q) / 2};
            return p;
        }

        Pipe with(char name, int v) {
            Pipe p = copy();
            switch (name) {
                case 'p': p.n = v; break;
                case 'h': p.h = v; break;
                case 'q': p.q = v; break;
                case 'a': p.a = v; break;
                case 'l': p.left = v; break;
                case 'r': p.right = v; break;
                default: throw new AssertionError(name);
            }
            return p.settled();
        }

        int old(char name) {
            switch (name) {
                case 'p': return n;
                case 'h': return h;
                case 'q': return q;
                case 'a': return a;
                case 'l': return left;
                default: return right;
            }
        }

        Pipe withLaw(int k, int span) {
            Pipe p = copy();
            p.law = k;
            p.t = span;
            return p;
        }

        Pipe after(int steps) {
            Pipe p = copy();
            int start = time();
            p.fromLeft = Arrays.copyOf(fromLeft, start + steps + 1);
            p.fromRight = Arrays.copyOf(fromRight, start + steps + 1);
            for (int s = start + 1; s <= start + steps; s++) {
                double back = p.fromRight[Math.max(0, s - n)];
                double fore = p.fromLeft[Math.max(0, s - n)];
                p.fromLeft[s] = left == 0 ? (double) h - back : back;
                double out;
                if (right == 0) {
                    out = fore - let(law, q, t, s);
                } else if (right == 1) {
                    out = (double) h - fore;
                } else if (right == 2) {
                    out = fore;
                } else {
                    out = p.level - fore;
                    p.level = Math.min(10000, Math.max(-10000, p.level + (fore - out) / a));
                }
                p.fromRight[s] = out;
            }
            return p;
        }

        double greatest(int i) {
            double most = pressure(i, 0);
            for (int s = 1; s <= time(); s++) {
                most = Math.max(most, pressure(i, s));
            }
            return most;
        }

        double least(int i) {
            double most = pressure(i, 0);
            for (int s = 1; s <= time(); s++) {
                most = Math.min(most, pressure(i, s));
            }
            return most;
        }

        double trial(int k, int span, int m) {
            Pipe p = with('r', 0).withLaw(k, span).after(m);
            double most = p.greatest(0);
            for (int i = 1; i <= n; i++) {
                most = Math.max(most, p.greatest(i));
            }
            return most;
        }

        long node(int i, int what) {
            double f = f(i, time()), b = b(i, time());
            double[] answers = {f + b, f - b, f, b, greatest(i), least(i)};
            return (long) (answers[what] * 1000);
        }

        long all(int what) {
            double kept = 0, most = greatest(0), low = least(0);
            for (int i = 0; i <= n; i++) {
                double f = f(i, time()), b = b(i, time());
                kept += f * f + b * b;
                most = Math.max(most, greatest(i));
                low = Math.min(low, least(i));
            }
            double[] answers = {kept, most, low, right == 3 ? level : h};
            return (long) (answers[what] * 1000);
        }
    }

    private static double let(int law, double q, double t, double time) {
        if (law == 0) return q;
        if (law == 5) return Math.floor(time / t) % 2 == 0 ? q : q / 2;
        if (time >= t) return 0;
        if (law == 1) return q;
        if (law == 2) return (q * (t - time)) / t;
        if (law == 3) return (q * ((t * t) - (time * time))) / (t * t);
        return q / 2;
    }

    private static boolean in(int v, int least, int most) {
        return v >= least && v <= most;
    }

    private static boolean fits(char name, int v) {
        switch (name) {
            case 'p': return in(v, 1, 10);
            case 'h': return in(v, 0, 1000);
            case 'q': return in(v, -100, 100);
            case 'a': return in(v, 1, 99);
            case 'l': return in(v, 0, 1);
            default: return in(v, 0, 3);
        }
    }

    private static final class Model {
        static final String ORDER =
            "(?:[hq] *-?[0-9]{1,4}|[palrs] *[0-9]{1,4}|w *[0-9]{1,4} +[0-9]{1,4}) *;";
        static final Pattern TEXT = Pattern.compile(" *(?:" + ORDER + " *)+");

        Pipe now = new Pipe();
        final List<Pipe> states = new ArrayList<>();
        final int[] refused = new int[3];
        String text = "";

        int refuse(int why) {
            refused[-2 - why]++;
            return why;
        }

        long refuseLong() {
            refused[0]++;
            return BAD_LONG;
        }

        void become(Pipe next) {
            states.add(now);
            if (states.size() > 4) states.remove(0);
            now = next;
        }

        int set(char name, int v) {
            if (!fits(name, v)) return refuse(-2);
            int was = now.old(name);
            become(now.with(name, v));
            return was;
        }

        int law(int k, int t) {
            if (!in(k, 0, 5) || !in(t, 1, 60)) return refuse(-2);
            int was = now.law;
            become(now.withLaw(k, t));
            return was;
        }

        int steady() {
            int was = now.time();
            become(now.settled());
            return was;
        }

        int steps(int n) {
            if (!in(n, 1, 100)) return refuse(-2);
            if (now.time() + n > 999) return refuse(-4);
            become(now.after(n));
            return now.time();
        }

        long node(int i, int what) {
            return in(i, 0, now.n) && in(what, 0, 5) ? now.node(i, what) : refuseLong();
        }

        long all(int what) {
            return in(what, 0, 3) ? now.all(what) : refuseLong();
        }

        long bits(int i) {
            if (!in(i, 0, now.n)) return refuseLong();
            return Double.doubleToRawLongBits(now.pressure(i, now.time()));
        }

        long lets(int k, int t, int time) {
            if (!in(k, 0, 5) || !in(t, 1, 60) || !in(time, 0, 9999)) return refuseLong();
            return (long) (let(k, now.q, t, time) * 1000);
        }

        long trial(int k, int t, int m) {
            if (!in(k, 0, 5) || !in(t, 1, 60) || !in(m, 0, 100)) return refuseLong();
            return (long) (now.trial(k, t, m) * 1000);
        }

        int soonestOf(int k, int b, int m) {
            for (int t = 1; t <= 60; t++) {
                if (now.trial(k, t, m) <= b) return t;
            }
            return -1;
        }

        int soonest(int k, int b, int m) {
            if (!in(k, 0, 5) || !in(b, -9999, 9999) || !in(m, 0, 100)) return refuse(-2);
            return soonestOf(k, b, m);
        }

        int best(int b, int m, int what) {
            if (!in(b, -9999, 9999) || !in(m, 0, 100) || !in(what, 0, 1)) return refuse(-2);
            int law = -1, least = -1;
            for (int k = 1; k <= 4; k++) {
                int t = soonestOf(k, b, m);
                if (t != -1 && (least == -1 || t < least)) {
                    law = k;
                    least = t;
                }
            }
            return what == 0 ? law : least;
        }

        int type(int c) {
            if (!in(c, 0, 127)) return refuse(-2);
            if (text.length() == 100) return refuse(-4);
            text += (char) c;
            return text.length();
        }

        int clear() {
            int had = text.length();
            text = "";
            return had;
        }

        /** The first byte by which no further text could make it whole; the length; -1. */
        int fault() {
            for (int k = 1; k <= text.length(); k++) {
                Matcher m = TEXT.matcher(text.substring(0, k));
                if (!m.matches() && !m.hitEnd()) return k - 1;
            }
            return TEXT.matcher(text).matches() ? -1 : text.length();
        }

        int reads() {
            int fault = fault();
            if (fault >= 0) return -10 - fault;
            Pipe p = now;
            String[] orders = text.substring(0, text.lastIndexOf(';')).split(";");
            for (int i = 0; i < orders.length; i++) {
                p = done(p, orders[i].trim());
                if (p == null) return -1000 - i;
            }
            become(p);
            return orders.length;
        }

        static Pipe done(Pipe p, String order) {
            char name = order.charAt(0);
            String[] numbers = order.substring(1).trim().split(" +");
            int v = Integer.parseInt(numbers[0]);
            if (name == 'w') {
                int t = Integer.parseInt(numbers[1]);
                return in(v, 0, 5) && in(t, 1, 60) ? p.withLaw(v, t) : null;
            }
            if (name == 's') {
                return in(v, 1, 100) && p.time() + v <= 999 ? p.after(v) : null;
            }
            return fits(name, v) ? p.with(name, v) : null;
        }

        int back() {
            if (states.isEmpty()) return refuse(-3);
            now = states.remove(states.size() - 1);
            return states.size();
        }

        int told(int what) {
            int[] answers = {refused[0], refused[1], refused[2], text.length(), now.n, now.h, now.q,
                now.a, now.left, now.right, now.law, now.t, now.time(), states.size()};
            return in(what, 0, 13) ? answers[what] : refuse(-2);
        }

        long digest() {
            long h = 2549;
            for (int what = 0; what < 14; what++) h = 31 * h + told(what);
            for (int i = 0; i <= now.n; i++) {
                for (int what = 0; what < 6; what++) h = 31 * h + node(i, what);
                h = 31 * h + bits(i);
            }
            for (int what = 0; what < 4; what++) h = 31 * h + all(what);
            return 31 * h + trial(2, now.t, 20);
        }
    }

    private final Random random;
    private final SurgeLine real = new SurgeLine();
    private final Model model = new Model();
    private final StringBuilder story = new StringBuilder();
    private int calls = 0;

    private ModelTest(long seed) {
        random = new Random(seed);
    }

    /** Mostly within the bounds or on their edges, now and then far outside. */
    private int pick(int least, int most) {
        switch (random.nextInt(24)) {
            case 0: return least - 1;
            case 1: return most + 1;
            case 2: case 3: return least;
            case 4: case 5: return most;
            case 6:
                int[] far = {Integer.MIN_VALUE, Integer.MAX_VALUE, -1, 0, 1 << 16, -(1 << 16)};
                return random.nextInt(4) == 0 ? far[random.nextInt(far.length)] : least;
            default: return least + random.nextInt(most - least + 1);
        }
    }

    private String randomOrder() {
        String gap = random.nextInt(3) == 0 ? " " : "";
        String end = random.nextInt(6) == 0 ? " ;" : ";";
        switch (random.nextInt(9)) {
            case 0: return "p" + gap + pick(1, 10) + end;
            case 1: return "h" + gap + pick(0, 1000) + end;
            case 2: return "q" + gap + pick(-100, 100) + end;
            case 3: return "a" + gap + pick(1, 99) + end;
            case 4: return "l" + gap + pick(0, 1) + end;
            case 5: return "r" + gap + pick(0, 3) + end;
            case 6: return "w" + gap + pick(0, 5) + " " + gap + pick(1, 60) + end;
            default: return "s" + gap + pick(1, 100) + end;
        }
    }

    private String randomText() {
        StringBuilder text = new StringBuilder();
        int orders = random.nextInt(random.nextInt(8) == 0 ? 24 : 5);
        for (int i = 0; i < orders; i++) {
            text.append(random.nextInt(5) == 0 ? " " : "").append(randomOrder());
        }
        String signs = " -;0123456789phqalrws+PxW:/\t";
        for (int i = random.nextInt(8) - 5; i > 0; i--) {
            char c = random.nextInt(10) == 0 ? (char) random.nextInt(128) : signs.charAt(random.nextInt(signs.length()));
            int at = random.nextInt(text.length() + 1);
            if (random.nextBoolean() && at < text.length()) text.setCharAt(at, c);
            else text.insert(at, c);
        }
        if (random.nextInt(10) == 0 && text.length() > 0) text.setLength(random.nextInt(text.length()));
        return text.length() > 104 ? text.substring(0, 104) : text.toString();
    }

    private boolean same(String call, long got, long want) {
        calls++;
        story.append(call).append(" = ").append(want).append('\n');
        if (got == want) return true;
        System.out.println(story + "but answered " + got);
        return false;
    }

    private boolean text() {
        if (!same("clear()", real.clear(), model.clear())) return false;
        for (char c : randomText().toCharArray()) {
            if (!same("type(" + (int) c + ")", real.type(c), model.type(c))) return false;
        }
        return same("reads()", real.reads(), model.reads());
    }

    private boolean change() {
        switch (random.nextInt(9)) {
            case 0: { int n = pick(1, 10); return same("pipe(" + n + ")", real.pipe(n), model.set('p', n)); }
            case 1: case 2: {
                int what = pick(0, 2);
                int v = what == 0 ? pick(0, 1000) : what == 1 ? pick(-100, 100) : pick(1, 99);
                int want = in(what, 0, 2) ? model.set("hqa".charAt(what), v) : model.refuse(-2);
                return same("sets(" + what + ", " + v + ")", real.sets(what, v), want);
            }
            case 3: {
                int which = pick(0, 1), e = which == 0 ? pick(0, 1) : pick(0, 3);
                int want = in(which, 0, 1) ? model.set("lr".charAt(which), e) : model.refuse(-2);
                return same("ends(" + which + ", " + e + ")", real.ends(which, e), want);
            }
            case 4: { int k = pick(0, 5), t = pick(1, 60); return same("law(" + k + ", " + t + ")", real.law(k, t), model.law(k, t)); }
            case 5: return random.nextInt(4) != 0 || same("steady()", real.steady(), model.steady());
            default: { int n = pick(1, 100); return same("steps(" + n + ")", real.steps(n), model.steps(n)); }
        }
    }

    private boolean question() {
        int k = pick(0, 5), t = pick(1, 60), m = pick(0, 100), i = pick(0, model.now.n);
        int b = random.nextInt(3) == 0 ? pick(-9999, 9999) : model.now.h + random.nextInt(121) - 10;
        int w;
        switch (random.nextInt(60)) {
            case 0: case 1: return same("soonest(" + k + ", " + b + ", " + m + ")", real.soonest(k, b, m), model.soonest(k, b, m));
            case 2: w = pick(0, 1); return same("best(" + b + ", " + m + ", " + w + ")", real.best(b, m, w), model.best(b, m, w));
            case 3: case 4: case 5: return same("trial(" + k + ", " + t + ", " + m + ")", real.trial(k, t, m), model.trial(k, t, m));
            case 6: case 7: return same("digest()", real.digest(), model.digest());
            default:
        }
        switch (random.nextInt(5)) {
            case 0: w = pick(0, 5); return same("node(" + i + ", " + w + ")", real.node(i, w), model.node(i, w));
            case 1: w = pick(0, 3); return same("all(" + w + ")", real.all(w), model.all(w));
            case 2: return same("bits(" + i + ")", real.bits(i), model.bits(i));
            case 3:
                w = random.nextBoolean() ? pick(0, 9999) : pick(0, 70);
                return same("lets(" + k + ", " + t + ", " + w + ")", real.lets(k, t, w), model.lets(k, t, w));
            default: w = pick(0, 13); return same("told(" + w + ")", real.told(w), model.told(w));
        }
    }

    private boolean run() {
        while (calls < CALLS - 110) {
            int kind = random.nextInt(100);
            boolean good = kind < 4 ? text()
                : kind < 45 ? change()
                : kind < 50 ? same("back()", real.back(), model.back())
                : question();
            if (!good) return false;
        }
        return same("digest()", real.digest(), model.digest());
    }

    public static void main(String[] args) {
        for (int seed = 1; seed <= RUNS; seed++) {
            if (!new ModelTest(seed).run()) {
                System.out.println("run " + seed + " is not as the model's");
                System.exit(1);
            }
        }
        System.out.println(RUNS + " runs are as the model's");
    }
}
