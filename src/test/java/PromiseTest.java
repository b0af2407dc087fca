/** For each promise of the document: ordinary calls, the edges it names, and wrong numbers. */
public final class PromiseTest {
    private static final long BAD_LONG = -9000000000000000L;
    private static final int[] FAR = {Integer.MIN_VALUE, -100000, 100000, Integer.MAX_VALUE};
    private static int wrong = 0;

    private static void due(String what, long want, long got) {
        if (got != want) {
            wrong++;
            System.out.println(what + ": answered " + got + ", due is " + want);
        }
    }

    private static SurgeLine written(String text) {
        return write(new SurgeLine(), text);
    }

    private static SurgeLine write(SurgeLine x, String text) {
        x.clear();
        for (int i = 0; i < text.length(); i++) {
            due("type behind " + i, i + 1, x.type(text.charAt(i)));
        }
        return x;
    }

    private static long digestOf(SurgeLine x) {
        long h = 2549;
        for (int what = 0; what <= 13; what++) {
            h = 31 * h + x.told(what);
        }
        for (int i = 0; i <= x.told(4); i++) {
            for (int what = 0; what <= 5; what++) {
                h = 31 * h + x.node(i, what);
            }
            h = 31 * h + x.bits(i);
        }
        for (int what = 0; what <= 3; what++) {
            h = 31 * h + x.all(what);
        }
        return 31 * h + x.trial(2, x.told(11), 20);
    }

    private static void toldAll(String what, SurgeLine x, int... want) {
        for (int i = 0; i < want.length; i++) {
            due(what + ", told(" + i + ")", want[i], x.told(i));
        }
    }

    private static void nodes(String what, SurgeLine x, int column, long... want) {
        for (int i = 0; i < want.length; i++) {
            due(what + ", node(" + i + ", " + column + ")", want[i], x.node(i, column));
        }
    }

    private static void newObject() {
        SurgeLine x = new SurgeLine();
        toldAll("1 new", x, 0, 0, 0, 0, 4, 100, 20, 5, 0, 0, 0, 10, 0, 0);
        long[] want = {100000, 20000, 60000, 40000, 100000, 100000};
        for (int i = 0; i <= 4; i++) {
            for (int what = 0; what <= 5; what++) {
                due("1 node", want[what], x.node(i, what));
            }
        }
        SurgeLine other = new SurgeLine();
        other.sets(0, 7);
        due("1 objects do not share", 100, x.told(5));
        due("constants", 1, SurgeLine.NONE == -1 && SurgeLine.BAD == -2 && SurgeLine.NO == -3 && SurgeLine.FULL == -4 ? 1 : 0);
    }

    private static void pipe() {
        SurgeLine x = new SurgeLine();
        due("2 pipe(10)", 4, x.pipe(10));
        nodes("2 ten reaches", x, 0, 100000, 100000, 100000, 100000, 100000, 100000, 100000, 100000, 100000, 100000, 100000, BAD_LONG);
        due("2 pipe(1)", 10, x.pipe(1));
        nodes("2 one reach", x, 2, 60000, 60000, BAD_LONG);
        x.law(1, 1);
        x.steps(3);
        due("2 pipe(1) again", 1, x.pipe(1));
        toldAll("2 steady", x, 2, 0, 0, 0, 1, 100, 20, 5, 0, 0, 1, 1, 0, 4);
        nodes("2 steady", x, 4, 100000, 100000);
        due("2 pipe(0)", -2, x.pipe(0));
        due("2 pipe(11)", -2, x.pipe(11));
        for (int v : FAR) due("2 pipe far", -2, x.pipe(v));
        toldAll("2 refused", x, 8, 0, 0, 0, 1, 100, 20, 5, 0, 0, 1, 1, 0, 4);
    }

    private static void sets() {
        SurgeLine x = new SurgeLine();
        due("3 H", 100, x.sets(0, 1000));
        due("3 H", 1000, x.sets(0, 0));
        due("3 Q", 20, x.sets(1, -100));
        due("3 Q", -100, x.sets(1, 100));
        nodes("3 steady", x, 2, 50000, 50000, 50000, 50000, 50000);
        nodes("3 steady", x, 3, -50000, -50000, -50000, -50000, -50000);
        due("3 A", 5, x.sets(2, 99));
        due("3 A", 99, x.sets(2, 1));
        x.steps(9);
        due("3 A", 1, x.sets(2, 1));
        due("3 time", 0, x.told(12));
        int[][] bad = {{0, -1}, {0, 1001}, {1, -101}, {1, 101}, {2, 0}, {2, 100}, {3, 0}, {-1, 5}};
        for (int[] b : bad) due("3 bad", -2, x.sets(b[0], b[1]));
        for (int v : FAR) {
            due("3 far", -2, x.sets(v, 5));
            due("3 far", -2, x.sets(1, v));
        }
        toldAll("3 refused", x, 16, 0, 0, 0, 4, 0, 100, 1, 0, 0, 0, 10, 0, 4);
        SurgeLine y = new SurgeLine();
        y.sets(1, -2);
        due("3 Q was -2, like BAD", -2, y.sets(1, 3));
        toldAll("3 Q was -2", y, 0, 0, 0, 0, 4, 100, 3, 5, 0, 0, 0, 10, 0, 2);
        y.sets(0, 5);
        y.sets(1, 2);
        due("3 halves", 3500, y.node(0, 2));
        due("3 halves", 1500, y.node(4, 3));
    }

    private static void ends() {
        SurgeLine x = new SurgeLine();
        due("4 left", 0, x.ends(0, 1));
        due("4 left", 1, x.ends(0, 0));
        due("4 right", 0, x.ends(1, 3));
        due("4 right", 3, x.ends(1, 2));
        x.steps(2);
        due("4 right", 2, x.ends(1, 1));
        due("4 right", 1, x.ends(1, 1));
        toldAll("4 told", x, 0, 0, 0, 0, 4, 100, 20, 5, 0, 1, 0, 10, 0, 4);
        int[][] bad = {{0, 2}, {0, -1}, {1, 4}, {1, -1}, {2, 0}, {-1, 0}};
        for (int[] b : bad) due("4 bad", -2, x.ends(b[0], b[1]));
        for (int v : FAR) {
            due("4 far", -2, x.ends(v, 0));
            due("4 far", -2, x.ends(0, v));
        }
        toldAll("4 refused", x, 14, 0, 0, 0, 4, 100, 20, 5, 0, 1, 0, 10, 0, 4);
    }

    private static void law() {
        SurgeLine x = new SurgeLine();
        x.steps(3);
        due("5 law", 0, x.law(5, 60));
        due("5 law", 5, x.law(0, 1));
        due("5 law", 0, x.law(1, 4));
        toldAll("5 not steady", x, 0, 0, 0, 0, 4, 100, 20, 5, 0, 0, 1, 4, 3, 4);
        x.steps(1);
        nodes("5 shut at 4", x, 0, 100000, 100000, 100000, 100000, 120000);
        int[][] bad = {{-1, 1}, {6, 1}, {0, 0}, {0, 61}, {5, -1}};
        for (int[] b : bad) due("5 bad", -2, x.law(b[0], b[1]));
        for (int v : FAR) {
            due("5 far", -2, x.law(v, 1));
            due("5 far", -2, x.law(1, v));
        }
        toldAll("5 refused", x, 13, 0, 0, 0, 4, 100, 20, 5, 0, 0, 1, 4, 4, 4);
    }

    private static void steady() {
        SurgeLine x = new SurgeLine();
        x.ends(1, 3);
        x.law(4, 9);
        x.steps(30);
        due("6 steady", 30, x.steady());
        toldAll("6 told", x, 0, 0, 0, 0, 4, 100, 20, 5, 0, 3, 4, 9, 0, 4);
        due("6 level", 100000, x.all(3));
        due("6 greatest", 100000, x.all(1));
        due("6 least", 100000, x.all(2));
        nodes("6 forward", x, 2, 60000, 60000, 60000, 60000, 60000);
        due("6 again", 0, x.steady());
        due("6 a state each", 4, x.told(13));
    }

    private static void stepsToTheirEnd() {
        SurgeLine x = new SurgeLine();
        for (int i = 1; i <= 9; i++) due("7 steps", 100 * i, x.steps(100));
        due("7 above 999", -4, x.steps(100));
        due("7 999", 999, x.steps(99));
        due("7 1000", -4, x.steps(1));
        due("7 BAD first", -2, x.steps(0));
        due("7 BAD first", -2, x.steps(101));
        for (int v : FAR) due("7 far", -2, x.steps(v));
        toldAll("7 told", x, 6, 0, 2, 0, 4, 100, 20, 5, 0, 0, 0, 10, 999, 4);
        due("7 steady", 999, x.steady());
        due("7 once more", 1, x.steps(1));
    }

    private static void stepsAtWalls() {
        SurgeLine x = new SurgeLine();
        x.pipe(1);
        x.ends(1, 2);
        x.steps(1);
        nodes("7 lake and wall, 1", x, 2, 60000, 60000);
        nodes("7 lake and wall, 1", x, 3, 40000, 60000);
        x.steps(1);
        nodes("7 lake and wall, 2", x, 2, 40000, 60000);
        nodes("7 lake and wall, 2", x, 3, 60000, 60000);
        x.steps(1);
        nodes("7 lake and wall, 3", x, 0, 100000, 80000);
        x.ends(0, 1);
        x.ends(1, 1);
        x.steps(1);
        nodes("7 wall and lake, 1", x, 2, 40000, 60000);
        nodes("7 wall and lake, 1", x, 3, 40000, 40000);
        x.steps(1);
        nodes("7 wall and lake, 2", x, 2, 40000, 40000);
        nodes("7 wall and lake, 2", x, 3, 40000, 60000);
        x.steps(1);
        nodes("7 wall and lake, 3", x, 1, 0, -20000);
    }

    private static void stepsAtValve() {
        SurgeLine x = new SurgeLine();
        x.pipe(3);
        x.law(1, 2);
        x.steps(1);
        nodes("7 open", x, 0, 100000, 100000, 100000, 100000);
        x.steps(1);
        nodes("7 shut", x, 0, 100000, 100000, 100000, 120000);
        x.steps(1);
        nodes("7 a node on", x, 0, 100000, 100000, 120000, 120000);
        x.steps(2);
        nodes("7 at the lake", x, 0, 100000, 120000, 120000, 120000);
        nodes("7 at the lake", x, 1, -20000, 0, 0, 0);
        x.steps(3);
        nodes("7 down", x, 0, 100000, 100000, 100000, 80000);
        nodes("7 greatest", x, 4, 100000, 120000, 120000, 120000);
        nodes("7 least", x, 5, 100000, 100000, 100000, 80000);
        x.law(2, 2);
        x.steady();
        x.steps(1);
        due("7 half shut at TIME 1", 110000, x.node(3, 0));
        x.law(5, 2);
        x.steady();
        x.steps(2);
        due("7 sway at TIME 2", 110000, x.node(3, 0));
    }

    private static long leveled(String text) {
        SurgeLine x = written(text);
        x.reads();
        return x.all(3);
    }

    private static void stepsAtTank() {
        SurgeLine x = new SurgeLine();
        x.pipe(1);
        x.sets(2, 3);
        x.ends(1, 3);
        x.steps(1);
        nodes("7 tank, 1", x, 3, 40000, 40000);
        due("7 tank, 1", 106666, x.all(3));
        x.steps(1);
        due("7 tank, 2", 46666, x.node(1, 3));
        due("7 tank, 2", Double.doubleToRawLongBits(60 + (100 + 20.0 / 3 - 60)), x.bits(1));
        due("7 tank, 2", 111111, x.all(3));
        x.sets(0, 0);
        x.sets(1, 100);
        x.sets(2, 1);
        x.steps(16);
        due("7 not yet at its bound", 1, x.all(3) < 10000000L && x.all(3) > -10000000L ? 1 : 0);
        x.steps(1);
        due("7 no level above 10000", 10000000L, x.all(3));
        x.steps(1);
        due("7 pressed by the tank", 10000000L, x.node(1, 0));
        due("7 no level below -10000", -10000000L, x.all(3));
        due("7 10000, not 10000.201", 10000000L, leveled("h686;q76;a6;p1;l1;r3;s89;"));
        due("7 -10000, not -10000.102", -10000000L, leveled("h10;q-9;a4;p1;l1;r3;s95;"));
    }

    private static void steps() {
        stepsToTheirEnd();
        stepsAtWalls();
        stepsAtValve();
        stepsAtTank();
    }

    private static void node() {
        SurgeLine x = new SurgeLine();
        x.pipe(1);
        x.sets(2, 3);
        x.ends(0, 1);
        x.ends(1, 3);
        x.steps(3);
        nodes("8 wall and tank", x, 0, 133333, 97777);
        nodes("8 wall and tank", x, 1, 0, -17777);
        nodes("8 wall and tank", x, 2, 66666, 40000);
        nodes("8 wall and tank", x, 3, 66666, 57777);
        nodes("8 wall and tank", x, 4, 133333, 106666);
        nodes("8 wall and tank", x, 5, 80000, 97777);
        due("8 i", BAD_LONG, x.node(2, 0));
        due("8 i", BAD_LONG, x.node(-1, 0));
        due("8 what", BAD_LONG, x.node(0, 6));
        due("8 what", BAD_LONG, x.node(0, -1));
        for (int v : FAR) {
            due("8 far", BAD_LONG, x.node(v, 0));
            due("8 far", BAD_LONG, x.node(0, v));
        }
        due("8 counted", 12, x.told(0));
    }

    private static void all() {
        SurgeLine x = new SurgeLine();
        due("9 kept", 26000000, x.all(0));
        x.law(1, 1);
        x.steps(1);
        due("9 kept", 28000000, x.all(0));
        due("9 greatest", 120000, x.all(1));
        due("9 least", 100000, x.all(2));
        due("9 level", 100000, x.all(3));
        x.steps(9);
        due("9 greatest", 120000, x.all(1));
        due("9 least", 80000, x.all(2));
        x.ends(1, 3);
        x.steps(1);
        due("9 level", 104000, x.all(3));
        x.ends(1, 0);
        due("9 level without a tank", 100000, x.all(3));
        due("9 what", BAD_LONG, x.all(4));
        due("9 what", BAD_LONG, x.all(-1));
        for (int v : FAR) due("9 far", BAD_LONG, x.all(v));
        due("9 counted", 6, x.told(0));
        due("9 leaves no state", 4, x.told(13));
    }

    private static void bits() {
        SurgeLine x = new SurgeLine();
        due("10 100", Double.doubleToRawLongBits(100), x.bits(0));
        for (int h = 0; h <= 1000; h += 37) {
            x = new SurgeLine();
            x.sets(0, h);
            due("10 H", Double.doubleToRawLongBits(h), x.bits(4));
        }
        x = new SurgeLine();
        x.sets(0, 0);
        x.pipe(1);
        x.law(1, 1);
        x.steps(3);
        due("10 below 0", Double.doubleToRawLongBits(-20), x.bits(1));
        due("10 of the lake", 0, x.bits(0));
        x.steady();
        x.sets(1, 1);
        x.law(2, 60);
        x.steps(1);
        due("10 near 0", Double.doubleToRawLongBits(0.5 + (0.5 - 59.0 / 60)), x.bits(1));
        due("10 i", BAD_LONG, x.bits(2));
        due("10 i", BAD_LONG, x.bits(-1));
        for (int v : FAR) due("10 far", BAD_LONG, x.bits(v));
        due("10 counted", 6, x.told(0));
    }

    private static void lets() {
        SurgeLine x = new SurgeLine();
        int[][] rows = {
            {0, 1, 0, 20000}, {0, 60, 9999, 20000},
            {1, 5, 0, 20000}, {1, 5, 4, 20000}, {1, 5, 5, 0}, {1, 5, 9999, 0},
            {2, 3, 0, 20000}, {2, 3, 1, 13333}, {2, 3, 2, 6666}, {2, 3, 3, 0}, {2, 3, 4, 0},
            {3, 3, 0, 20000}, {3, 3, 1, 17777}, {3, 3, 2, 11111}, {3, 3, 3, 0}, {3, 3, 9, 0},
            {4, 2, 0, 10000}, {4, 2, 1, 10000}, {4, 2, 2, 0},
            {5, 3, 0, 20000}, {5, 3, 2, 20000}, {5, 3, 3, 10000}, {5, 3, 5, 10000}, {5, 3, 6, 20000}, {5, 1, 9999, 10000}};
        for (int[] r : rows) due("11 lets " + r[0] + " " + r[1] + " " + r[2], r[3], x.lets(r[0], r[1], r[2]));
        x.sets(1, -20);
        for (int[] r : rows) due("11 lets, Q below 0", -r[3], x.lets(r[0], r[1], r[2]));
        int[][] bad = {{-1, 1, 0}, {6, 1, 0}, {1, 0, 0}, {1, 61, 0}, {1, 1, -1}, {1, 1, 10000}};
        for (int[] b : bad) due("11 bad", BAD_LONG, x.lets(b[0], b[1], b[2]));
        for (int v : FAR) {
            due("11 far", BAD_LONG, x.lets(v, 1, 0));
            due("11 far", BAD_LONG, x.lets(1, v, 0));
            due("11 far", BAD_LONG, x.lets(1, 1, v));
        }
        toldAll("11 told", x, 18, 0, 0, 0, 4, 100, -20, 5, 0, 0, 0, 10, 0, 1);
    }

    private static void trial() {
        SurgeLine x = new SurgeLine();
        x.ends(1, 3);
        x.law(5, 3);
        x.steps(13);
        long before = x.digest();
        due("12 no step", 100000, x.trial(1, 1, 0));
        due("12 shut at 1", 120000, x.trial(1, 1, 1));
        due("12 not shut yet", 100000, x.trial(1, 2, 1));
        due("12 held", 100000, x.trial(0, 1, 100));
        due("12 even", 110000, x.trial(2, 2, 1));
        due("12 late", 102222, x.trial(3, 3, 1));
        due("12 halves", 110000, x.trial(4, 9, 8));
        due("12 sway", 110000, x.trial(5, 2, 2));
        due("12 changes nothing", before, x.digest());
        int[][] bad = {{-1, 1, 0}, {6, 1, 0}, {1, 0, 0}, {1, 61, 0}, {1, 1, -1}, {1, 1, 101}};
        for (int[] b : bad) due("12 bad", BAD_LONG, x.trial(b[0], b[1], b[2]));
        for (int v : FAR) {
            due("12 far", BAD_LONG, x.trial(v, 1, 0));
            due("12 far", BAD_LONG, x.trial(1, v, 0));
            due("12 far", BAD_LONG, x.trial(1, 1, v));
        }
        due("12 counted", 18, x.told(0));
        SurgeLine wall = new SurgeLine();
        wall.ends(0, 1);
        wall.sets(1, -20);
        due("12 keeps the left end", 120000, wall.trial(0, 1, 1));
        wall.sets(1, 100);
        due("12 falls", 100000, wall.trial(0, 1, 9));
    }

    private static void soonest() {
        SurgeLine x = new SurgeLine();
        x.ends(1, 2);
        x.steps(7);
        long before = x.digest();
        due("13 no more than b", 1, x.soonest(1, 120, 50));
        due("13 shut too late to tell", 51, x.soonest(1, 119, 50));
        due("13 the last T", 60, x.soonest(1, 119, 59));
        due("13 none", -1, x.soonest(1, 119, 60));
        due("13 even", 11, x.soonest(2, 115, 60));
        due("13 held", 1, x.soonest(0, 100, 100));
        due("13 held", -1, x.soonest(0, 99, 100));
        due("13 sway", 1, x.soonest(5, 9999, 100));
        due("13 sway", 11, x.soonest(5, 100, 10));
        due("13 b", -1, x.soonest(3, -9999, 0));
        due("13 changes nothing", before, x.digest());
        int[][] bad = {{-1, 0, 0}, {6, 0, 0}, {1, -10000, 0}, {1, 10000, 0}, {1, 0, -1}, {1, 0, 101}};
        for (int[] b : bad) due("13 bad", -2, x.soonest(b[0], b[1], b[2]));
        for (int v : FAR) {
            due("13 far", -2, x.soonest(v, 0, 0));
            due("13 far", -2, x.soonest(1, v, 0));
            due("13 far", -2, x.soonest(1, 0, v));
        }
        due("13 counted", 18, x.told(0));
    }

    private static void best() {
        SurgeLine x = new SurgeLine();
        x.ends(1, 3);
        x.steps(7);
        long before = x.digest();
        due("14 of like ones the least", 1, x.best(9999, 100, 0));
        due("14 of like ones the least", 1, x.best(9999, 100, 1));
        due("14 the least T", 4, x.best(115, 60, 0));
        due("14 the least T", 9, x.best(115, 60, 1));
        due("14 shut too late to tell", 1, x.best(100, 10, 0));
        due("14 shut too late to tell", 11, x.best(100, 10, 1));
        due("14 the last T", 60, x.best(100, 59, 1));
        due("14 none", -1, x.best(99, 100, 0));
        due("14 none", -1, x.best(-9999, 0, 1));
        due("14 not HELD, not SWAY", -1, x.best(100, 60, 0));
        due("14 changes nothing", before, x.digest());
        int[][] bad = {{-10000, 0, 0}, {10000, 0, 0}, {0, -1, 0}, {0, 101, 0}, {0, 0, -1}, {0, 0, 2}};
        for (int[] b : bad) due("14 bad", -2, x.best(b[0], b[1], b[2]));
        for (int v : FAR) {
            due("14 far", -2, x.best(v, 0, 0));
            due("14 far", -2, x.best(0, v, 0));
            due("14 far", -2, x.best(0, 0, v));
        }
        due("14 counted", 18, x.told(0));
    }

    private static void type() {
        SurgeLine x = new SurgeLine();
        due("15 0", 1, x.type(0));
        due("15 127", 2, x.type(127));
        due("15 128", -2, x.type(128));
        due("15 -1", -2, x.type(-1));
        for (int v : FAR) due("15 far", -2, x.type(v));
        for (int i = 3; i <= 100; i++) due("15 type", i, x.type(' '));
        due("15 full", -4, x.type('p'));
        due("15 BAD first", -2, x.type(128));
        toldAll("15 told", x, 7, 0, 1, 100, 4, 100, 20, 5, 0, 0, 0, 10, 0, 0);
    }

    private static void clear() {
        SurgeLine x = written("p 3;");
        due("16 clear", 4, x.clear());
        due("16 empty", 0, x.clear());
        due("16 empty", 0, x.told(3));
        due("16 no state", 0, x.told(13));
        due("16 type", 1, x.type('s'));
        write(x, "s1;");
        due("16 what was there is gone", 1, x.reads());
    }

    private static void faults() {
        String[] texts = {
            "", "0", " ", "1", "   ", "3", "p", "1", "p ", "2", "p3", "2", "p3 ", "3", "p;", "1", "3;", "0", ";", "0",
            "p-3;", "1", "a-3;", "1", "l-1;", "1", "r-1;", "1", "s-1;", "1", "w-1 2;", "1", "w1 -2;", "3",
            "h- 3;", "2", "q--3;", "2", "h+3;", "1", "q-;", "2", "q-", "2", "h -", "3",
            "h12345;", "5", "h 1234 5;", "7", "q-12345;", "6", "h1 2;", "3", "h1 2 ;", "3", "h00000;", "5",
            "w12;", "3", "w1 ;", "3", "w1", "2", "w1 ", "3", "w1 2", "4", "w1 2 3;", "5", "w12345 6;", "5", "w1 23456;", "7",
            "p3;;", "3", "p3;x", "3", "p3;p", "4", "p3; p", "5", "P3;", "0", "pp3;", "1", "p3p4;", "2", "p3.;", "2",
            "p3;\t", "3", "p3;\0", "3", "x;", "0", "\177", "0", "p3,", "2", "p/;", "1", "p:;", "1"};
        for (int i = 0; i < texts.length; i += 2) {
            SurgeLine x = written(texts[i]);
            due("17 fault of '" + texts[i] + "'", -10 - Integer.parseInt(texts[i + 1]), x.reads());
            toldAll("17 fault of '" + texts[i] + "'", x, 0, 0, 0, texts[i].length(), 4, 100, 20, 5, 0, 0, 0, 10, 0, 0);
        }
        SurgeLine x = written("p3;".repeat(33) + "p");
        due("17 ends too early at 100", -110, x.reads());
    }

    private static void stops() {
        String[] texts = {
            "p0;", "0", "p11;", "0", "h1001;", "0", "h-1;", "0", "q101;", "0", "q-101;", "0", "a0;", "0", "a100;", "0",
            "l2;", "0", "r4;", "0", "w6 1;", "0", "w0 0;", "0", "w0 61;", "0", "s0;", "0", "s101;", "0", "s9999;", "0",
            "h 7;q7;p 0;", "2", "l0;" + "s100;".repeat(9) + "s99;s1;p1;", "11", "s100;".repeat(9) + "s97;", "9", "w1 1;s3;l1;w9 1;h1;", "3"};
        for (int i = 0; i < texts.length; i += 2) {
            SurgeLine x = new SurgeLine();
            x.law(1, 2);
            x.steps(3);
            long before = x.digest();
            int length = texts[i].length();
            x.back();
            x.steps(3);
            due("17 the same way", before, x.digest());
            write(x, texts[i]);
            due("17 stop of '" + texts[i] + "'", -1000 - Integer.parseInt(texts[i + 1]), x.reads());
            toldAll("17 stop of '" + texts[i] + "'", x, 0, 0, 0, length, 4, 100, 20, 5, 0, 0, 1, 2, 3, 2);
            x.clear();
            due("17 nothing is done by '" + texts[i] + "'", before, x.digest());
        }
    }

    private static void texts() {
        String[] good = {
            "p3;", "1", " p 3 ; ", "1", "p0003;", "1", "h-0;", "1", "q -5 ;", "1", "w1 2;", "1", " w  1  2 ;", "1",
            "s1;s2;s3;", "3", "l0;l1;r0;r1;r2;r3;", "6", "a1;a99;", "2", "h0;h1000;q-100;q100;", "4", "w 0005 0060;", "1"};
        for (int i = 0; i < good.length; i += 2) {
            SurgeLine x = written(good[i]);
            due("17 '" + good[i] + "'", Integer.parseInt(good[i + 1]), x.reads());
            due("17 one state for all of '" + good[i] + "'", 1, x.told(13));
            due("17 the text stays", good[i].length(), x.told(3));
        }
        SurgeLine x = written("p3;h200;q-30;a7;l1;r3;w3 9;s12;w4 6;");
        due("17 all orders", 9, x.reads());
        toldAll("17 all orders", x, 0, 0, 0, 36, 3, 200, -30, 7, 1, 3, 4, 6, 12, 1);
        SurgeLine y = new SurgeLine();
        y.pipe(3); y.sets(0, 200); y.sets(1, -30); y.sets(2, 7); y.ends(0, 1); y.ends(1, 3); y.law(3, 9); y.steps(12);
        nodes("17 as the calls", x, 0, y.node(0, 0), y.node(1, 0), y.node(2, 0), y.node(3, 0));
        due("17 level as the calls", y.all(3), x.all(3));
        due("17 back to before all", 0, x.back());
        toldAll("17 back", x, 0, 0, 0, 36, 4, 100, 20, 5, 0, 0, 0, 10, 0, 0);
        due("17 again", 9, x.reads());
        due("17 on top of it", 9, x.reads());
        due("17 a state each", 2, x.told(13));
        write(x, "q-2;q5;q-2;q6;");
        due("17 Q was -2, no stop", 4, x.reads());
        due("17 Q", 6, x.told(6));
        SurgeLine z = written("s100;".repeat(9) + "s99;");
        due("17 to 999", 10, z.reads());
        due("17 to 999", 999, z.told(12));
        due("17 beyond it", -1000, z.reads());
        due("17 counts nothing", 0, z.told(2));
    }

    private static void readsOverFullStates() {
        SurgeLine x = new SurgeLine();
        for (int n = 1; n <= 4; n++) x.pipe(n);
        write(x, "p9;p0;");
        due("17 stopped", -1001, x.reads());
        due("17 loses no state", 4, x.told(13));
        write(x, "p9;p8;");
        due("17 done", 2, x.reads());
        due("17 four at most", 4, x.told(13));
        int[] want = {4, 3, 2, 1};
        for (int i = 0; i < 4; i++) {
            due("17 back", 3 - i, x.back());
            due("17 back to", want[i], x.told(4));
        }
    }

    private static void reads() {
        faults();
        stops();
        texts();
        readsOverFullStates();
    }

    private static void back() {
        SurgeLine x = new SurgeLine();
        due("18 none", -3, x.back());
        for (int n = 1; n <= 6; n++) x.pipe(n);
        due("18 four at most", 4, x.told(13));
        for (int i = 0; i < 4; i++) {
            due("18 back", 3 - i, x.back());
            due("18 back to", 5 - i, x.told(4));
        }
        due("18 older ones lost", -3, x.back());
        due("18 counted", 2, x.told(1));
        due("18 as it was", 2, x.told(4));

        SurgeLine y = new SurgeLine();
        y.ends(1, 3);
        y.steps(9);
        y.law(3, 8);
        write(y, "x");
        y.pipe(0);
        y.steady();
        y.sets(0, 1);
        y.sets(0, 1);
        due("18 back", 3, y.back());
        due("18 also what changed nothing", 1, y.told(5));
        due("18 back", 2, y.back());
        due("18 back", 1, y.back());
        SurgeLine same = new SurgeLine();
        same.ends(1, 3);
        same.steps(9);
        due("18 level", same.all(3), y.all(3));
        due("18 greatest", same.all(1), y.all(1));
        due("18 least", same.all(2), y.all(2));
        nodes("18 greatest", y, 4, same.node(0, 4), same.node(1, 4), same.node(2, 4), same.node(3, 4), same.node(4, 4));
        toldAll("18 all but the text and how often", y, 1, 0, 0, 1, 4, 100, 20, 5, 0, 3, 3, 8, 9, 1);
        due("18 the law too", 0, y.back());
        due("18 the law too", 0, y.told(10));
        due("18 and its T", 10, y.told(11));
        y.pipe(2);
        due("18 a refused call leaves none", -2, y.pipe(99));
        due("18 one", 1, y.told(13));
        y.steps(5);
        due("18 on from there", 1, y.back());
        due("18 on from there", 0, y.told(12));
    }

    private static void told() {
        SurgeLine x = new SurgeLine();
        x.pipe(7); x.sets(0, 300); x.sets(1, -7); x.sets(2, 9); x.ends(0, 1); x.ends(1, 2); x.law(4, 33); x.steps(17);
        x.type('a');
        x.type(200);
        for (int i = 0; i < 5; i++) x.back();
        x.pipe(7); x.sets(1, -7); x.ends(1, 2);
        due("19 told", 3, x.told(13));
        due("19 -1", -2, x.told(-1));
        due("19 14", -2, x.told(14));
        for (int v : FAR) due("19 far", -2, x.told(v));
        toldAll("19 told", x, 7, 1, 0, 1, 7, 300, -7, 9, 0, 2, 0, 10, 0, 3);
    }

    private static void digest() {
        SurgeLine x = new SurgeLine();
        due("20 new", digestOf(x), x.digest());
        due("20 twice", x.digest(), x.digest());
        String[] texts = {"r3;s50;", "l1;q-20;w2 60;s3;", "p10;h0;q-100;w2 7;s99;", "p1;l1;a1;r3;s60;", "l1;r0;q3;w3 11;s77;w5 4;s22;"};
        for (String text : texts) {
            x = written(text);
            x.reads();
            x.pipe(0);
            due("20 " + text, digestOf(x), x.digest());
        }
        long before = x.digest();
        x.told(99);
        due("20 tells how often", 1, before == x.digest() ? 0 : 1);
    }

    public static void main(String[] args) {
        newObject();
        pipe();
        sets();
        ends();
        law();
        steady();
        steps();
        node();
        all();
        bits();
        lets();
        trial();
        soonest();
        best();
        type();
        clear();
        reads();
        back();
        told();
        digest();
        System.out.println(wrong == 0 ? "all promises hold" : wrong + " answers are not as due");
        if (wrong != 0) {
            System.exit(1);
        }
    }
}
