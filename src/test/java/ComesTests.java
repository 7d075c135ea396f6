/** Promises 13 to 16: what comes, the best gusts, the best change, odds; by hand, and by doing it. */
public final class ComesTests {
    private static final String THREE = "r0 1 5;r1 1 5;r7 1 5;";
    private static final String FIVE = "r0 2 3;r1 3 5;r6 1 2;r12 4 9;r7 2 4;";
    private static final String EIGHT = "r0 1 9;r1 2 8;r7 3 7;r13 4 6;r19 5 5;r20 4 4;r26 3 9;r30 2 9;d1;";

    public static void main(String[] args) {
        comes();
        most();
        mild();
        swaps();
        odds();
        wrongNumbers();
        nothingIsChanged();
        for (String text : new String[] {THREE, FIVE, EIGHT}) {
            comesByDoing(text);
            bestByDoing(text);
            swapByDoing(text);
            oddsByDoing(text);
        }
        Check.end("ComesTests");
    }

    private static void comes() {
        RodChimes x = Check.chime(THREE);
        x.blows(0, 5);
        int[][] due = {{0, 0}, {2, 1}, {6, 2}, {6, 2}};
        for (int n = 0; n < due.length; n++) {
            Check.due("comes(" + n + ", 0)", due[n][0], x.comes(n, 0));
            Check.due("comes(" + n + ", 1)", due[n][1], x.comes(n, 1));
        }
        x.calms();
        x.calms();
        Check.due("nothing comes", 0, x.comes(20, 0));
        Check.due("harsh behind 0 beats counts", 2, x.comes(20, 1));
        Check.due("harsh now", 2, x.comes(0, 1));
    }

    private static void most() {
        RodChimes a = Check.chime("d2;r0 9 3;r1 5 3;r2 1 3;r3 9 3;");
        Check.due("one by any: the least number", 9, a.best(0, 0));
        Check.due("two", 9, a.best(1, 0));
        RodChimes b = Check.chime("r0 1 1;r0 1 1;r0 1 1;r0 1 1;");
        Check.due("rods, not strikes", 3, b.best(20, 0));
        RodChimes c = Check.chime("r0 9 1;r0 9 1;r0 2 1;");
        Check.due("at the gust's beat alone", 9, c.best(0, 0));
        Check.due("in calm beats, too", 19, c.best(1, 0));
        RodChimes d = Check.chime("r0 9 9;r0 9 9;r0 9 9;");
        d.blows(0, 8);
        Check.due("weaker gusts strike nothing", 9, d.best(20, 0));
    }

    private static void mild() {
        RodChimes x = Check.chime(THREE);
        Check.due("at rest", 1, x.best(0, 1));
        x.blows(0, 5);
        Check.due("the one that rings", 4, x.best(0, 1));
        Check.due("and one that goes with it", 24, x.best(1, 1));
        RodChimes y = Check.chime("r0 9 1;r1 9 1;r2 9 1;");
        Check.due("only such as strike", 9, y.best(0, 1));
        RodChimes z = Check.chime("d3;r0 9 1;r48 9 9;r1 1 1;");
        Check.due("struck in a calm beat", 7, z.best(2, 1));
        Check.due("struck by the gust", 9, z.best(0, 1));
    }

    private static void swaps() {
        RodChimes x = Check.chime(THREE);
        Check.due("all of them ring", -9, x.swap(0, 5, 2));
        Check.due("rods 1 and 2", 12, x.swap(0, 5, 1));
        Check.due("rods 0 and 1", 1, x.swap(1, 5, 1));
        Check.due("not harsh", -9, x.swap(0, 5, 0));
        x.blows(0, 5);
        x.calms();
        // rods 0 and 1 ring on, 1 harsh; a weak gust strikes side 2 next: rod 2 there makes it 2
        Check.due("0 or 1 to side 2: the least number", 2, x.swap(2, 1, 0));
        Check.due("harsh as it rings on, not mended", -9, x.swap(0, 2, 0));
        // sides 0, 2, 4 are struck: tones 0, 1, 7 make 2; with rods 0 and 1 changed 4, 1, 7 make 1,
        // with rods 1 and 2 changed 0, 4, 7 make none
        RodChimes y = Check.chime("r0 1 9;r4 1 9;r1 1 9;r1 1 9;r7 1 9;");
        Check.due("the least harsh, not the first that mends", 12, y.swap(0, 9, 2));
    }

    private static void fraction(RodChimes x, int strong, int n, int r, int upper, int lower) {
        Check.due("odds(" + strong + ", " + n + ", " + r + ", 0)", upper, x.odds(strong, n, r, 0));
        Check.due("odds(" + strong + ", " + n + ", " + r + ", 1)", lower, x.odds(strong, n, r, 1));
    }

    private static void odds() {
        RodChimes x = Check.chime(THREE);
        fraction(x, 1, 0, 0, 1, 3);
        fraction(x, 1, 20, 0, 1, 3);
        fraction(x, 3, 1, 0, 2, 3);
        fraction(x, 5, 2, 0, 1, 1);
        fraction(x, 4, 2, 0, 2, 3);
        RodChimes y = Check.chime("r0 9 1;r0 1 1;r0 1 1;r0 1 1;");
        fraction(y, 8, 20, 0, 0, 1);
        fraction(y, 9, 0, 0, 1, 4);
        fraction(y, 9, 1, 1, 1, 2);
        fraction(y, 9, 1, 2, 1, 2);
        RodChimes z = Check.chime("r0 1 1;".repeat(6));
        fraction(z, 9, 20, 5, 1, 3);
        z.blows(2, 9);
        // far 8: a weaker gust from anywhere swings it over to side 5, and back to 2
        fraction(z, 7, 0, 5, 1, 1);
        fraction(z, 7, 0, 2, 0, 1);
        fraction(z, 7, 1, 2, 1, 1);
        fraction(z, 8, 0, 5, 1, 6);
    }

    private static void wrongNumbers() {
        RodChimes x = Check.chime(THREE);
        int[] wrongN = {-1, 21, Integer.MIN_VALUE, Integer.MAX_VALUE};
        for (int n : wrongN) {
            Check.due("comes(" + n + ", 0)", -1, () -> x.comes(n, 0));
            Check.due("best(" + n + ", 0)", -1, () -> x.best(n, 0));
            Check.due("swap(0, 1, " + n + ")", -1, () -> x.swap(0, 1, n));
            Check.due("odds(1, " + n + ", 0, 0)", -1, () -> x.odds(1, n, 0, 0));
        }
        int[] wrongWhat = {-1, 2, Integer.MIN_VALUE};
        for (int w : wrongWhat) {
            Check.due("comes(0, " + w + ")", -1, () -> x.comes(0, w));
            Check.due("best(0, " + w + ")", -1, () -> x.best(0, w));
            Check.due("odds(1, 0, 0, " + w + ")", -1, () -> x.odds(1, 0, 0, w));
        }
        int[] wrongStrong = {0, 10, -5};
        for (int s : wrongStrong) {
            Check.due("swap(0, " + s + ", 0)", -1, () -> x.swap(0, s, 0));
            Check.due("odds(" + s + ", 0, 0, 0)", -1, () -> x.odds(s, 0, 0, 0));
        }
        int[] wrongRod = {-1, 3, Integer.MAX_VALUE};
        for (int r : wrongRod) {
            Check.due("swap(" + r + ", 1, 0)", -1, () -> x.swap(r, 1, 0));
            Check.due("odds(1, 0, " + r + ", 0)", -1, () -> x.odds(1, 0, r, 0));
        }
    }

    private static void nothingIsChanged() {
        RodChimes x = Check.chime(FIVE);
        x.blows(3, 6);
        x.comes(20, 1);
        x.best(20, 0);
        x.swap(1, 9, 20);
        x.odds(9, 20, 0, 0);
        x.now(5);
        int[] due = {1, 3, 5, 8, 0, 9, 1};
        for (int what = 0; what < due.length; what++) {
            Check.due("asked: now(" + what + ")", due[what], x.now(what));
        }
        for (int r = 0; r < 5; r++) {
            Check.due("asked: side of " + r, r, x.rod(r, 3));
        }
    }

    // ---- by doing: each in an object of its own, brought to the same place

    private static RodChimes brought(String text, int way) {
        RodChimes x = new RodChimes();
        Check.type(x, text);
        x.chime();
        if (way >= 1) {
            x.blows(1, 9);
            x.calms();
        }
        if (way >= 2) {
            x.changes(0, 2);
            x.blows(2, 4);
        }
        if (way >= 3) {
            x.calms();
            x.blows(0, 7);
        }
        return x;
    }

    private static final int WAYS = 4;

    /** What a run of beats has brought. */
    private static final class Tally {
        int struck = 0;
        int harsh = 0;

        void note(RodChimes x, int rod) {
            struck |= rod == RodChimes.NONE ? 0 : 1 << rod;
            harsh = Math.max(harsh, x.now(4));
        }

        static Tally of(RodChimes x, int side, int strong, int n) {
            Tally t = new Tally();
            t.note(x, x.blows(side, strong));
            for (int i = 0; i < n; i++) {
                t.note(x, x.calms());
            }
            return t;
        }
    }

    private static void comesByDoing(String text) {
        for (int way = 0; way < WAYS; way++) {
            for (int n = 0; n <= 20; n++) {
                RodChimes x = brought(text, way);
                int which = x.comes(n, 0);
                int harsh = x.comes(n, 1);
                Tally t = new Tally();
                t.note(x, RodChimes.NONE);
                for (int i = 0; i < n; i++) {
                    t.note(x, x.calms());
                }
                Check.due("which in " + n + ", way " + way, t.struck, which);
                Check.due("how harsh in " + n + ", way " + way, t.harsh, harsh);
            }
        }
    }

    private static void bestByDoing(String text) {
        for (int way = 0; way < WAYS; way++) {
            for (int n = 0; n <= 20; n += 2) {
                RodChimes x = brought(text, way);
                int most = -9, mostRods = -1, mild = -9, mildHarsh = 99;
                for (int gust = 1; gust < 10 * x.count(0); gust++) {
                    if (gust % 10 == 0) {
                        continue;
                    }
                    Tally t = Tally.of(brought(text, way), gust / 10, gust % 10, n);
                    if (Integer.bitCount(t.struck) > mostRods) {
                        most = gust;
                        mostRods = Integer.bitCount(t.struck);
                    }
                    if (t.struck != 0 && t.harsh < mildHarsh) {
                        mild = gust;
                        mildHarsh = t.harsh;
                    }
                }
                Check.due("most for " + n + ", way " + way, most, x.best(n, 0));
                Check.due("mild for " + n + ", way " + way, mild, x.best(n, 1));
            }
        }
    }

    private static void swapByDoing(String text) {
        for (int way = 0; way < WAYS; way++) {
            for (int gust = 4; gust < 30; gust += 5) {
                int side = gust / 10;
                int strong = Math.max(gust % 10, 1);
                int n = gust % 7;
                RodChimes x = brought(text, way);
                int best = -9;
                int least = Tally.of(brought(text, way), side, strong, n).harsh;
                for (int a = 0; a < x.count(0); a++) {
                    for (int b = a + 1; b < x.count(0); b++) {
                        RodChimes y = brought(text, way);
                        y.changes(a, b);
                        int harsh = Tally.of(y, side, strong, n).harsh;
                        if (harsh < least) {
                            best = 10 * a + b;
                            least = harsh;
                        }
                    }
                }
                Check.due("swap(" + side + ", " + strong + ", " + n + "), way " + way, best, x.swap(side, strong, n));
            }
        }
    }

    private static void oddsByDoing(String text) {
        for (int way = 0; way < WAYS; way++) {
            RodChimes x = brought(text, way);
            int rods = x.count(0);
            for (int strong = 1; strong <= 9; strong += 4) {
                for (int r = 0; r < rods; r++) {
                    int struck = 0;
                    for (int side = 0; side < rods; side++) {
                        struck += Tally.of(brought(text, way), side, strong, 3).struck >> r & 1;
                    }
                    int upper = x.odds(strong, 3, r, 0);
                    int lower = x.odds(strong, 3, r, 1);
                    Check.due("the same fraction", struck * lower, upper * rods);
                    Check.due("in least terms", 1, java.math.BigInteger.valueOf(upper)
                        .gcd(java.math.BigInteger.valueOf(lower)).intValue());
                }
            }
        }
    }
}
