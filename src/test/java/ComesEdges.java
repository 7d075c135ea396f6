/** The edges of part 3 of the terms, and of promises 13 to 16: what comes, what is best, odds. */
final class ComesEdges {
    private static final String NUMB = "r0 9 1;";
    private static final int[] WRONG_N = {Edges.MIN, -21, -1, 21, 60, Edges.MAX};
    private static final int[] WRONG_WHAT = {Edges.MIN, -1, 2, 32, Edges.MAX};
    private static final int[] WRONG_STRONG = {Edges.MIN, -1, 0, 10, Edges.MAX};
    private static final int[] WRONG_ROD = {Edges.MIN, -1, 3, 8, 32, Edges.MAX};

    private ComesEdges() {
    }

    static void tell(Edges e) {
        e.term("(As things are NOW; nothing is changed.)", ComesEdges::nothingIsChanged);
        e.term("1, 2, 6, 10 or 11 apart (left over by 12)", ComesEdges::apart);
        e.term("of all twos of RODS that ring", ComesEdges::twosThatRing);
        e.term("COMES in n (0 .. 20) calm BEATS: which RODS are STRUCK in them (bits)", ComesEdges::struckByBeats);
        e.term("how HARSH it is, at the greatest, behind 0 to n of them", ComesEdges::harshestByBeats);
        e.term("behind how many calm BEATS (0 .. 60) no ROD rings and FAR is 0; NONE", ComesEdges::still);
        e.term("MOST, MILD for n (0 .. 20)", ComesEdges::bestByBeats);
        e.term("the GUST (10 times its SIDE, and STRONG)", ComesEdges::gustNumbers);
        e.term("most RODS were STRUCK (the GUST's BEAT, too)", ComesEdges::gustsBeatCounts);
        e.term("of those by which a ROD is STRUCK", ComesEdges::onlyThatStrike);
        e.term("of several the least such number; NONE (MILD: there is none such)", ComesEdges::leastNumber);
        e.term("by whose CHANGE NOW it is less HARSH than without", ComesEdges::lessHarsh);
        e.term("the two RODS (10 times the lesser one, and the other one)", ComesEdges::swapNumbers);
        e.term("and least, of several the least such number; NONE", ComesEdges::leastHarshSwap);
        e.term("ODDS by a STRENGTH (1 .. 9), n (0 .. 20), for a ROD", ComesEdges::oddsByBeats);
        e.term("a GUST so STRONG comes NOW towards any SIDE, each as likely", ComesEdges::anySide);
        promises(e);
    }

    private static void promises(Edges e) {
        e.promise(13, "COMES: which (what = 0, bits), how HARSH (1). BAD.", ComesEdges::comesRefused);
        e.promise(14, "MOST (what = 0), MILD (1); NONE.", ComesEdges::bestWithoutRods);
        e.promise(14, "BAD.", ComesEdges::bestRefused);
        e.promise(15, "SWAP; NONE.", ComesEdges::swapNone);
        e.promise(15, "BAD.", ComesEdges::swapRefused);
        e.promise(16, "ODDS: upper (what = 0), lower number (1), in least terms.", ComesEdges::leastTerms);
        e.promise(16, "BAD.", ComesEdges::oddsRefused);
    }

    // ---- the terms

    private static void nothingIsChanged() {
        for (int bit = 0; bit <= 1; bit++) {
            int what = bit;
            asks("comes", x -> x.comes(20, what));
            asks("best", x -> x.best(20, what));
            asks("odds", x -> x.odds(9, 20, 1, what));
            asks("gusts", x -> x.gusts(what));
        }
        asks("swap", x -> x.swap(0, 9, 20));
        asks("listen", x -> x.listen(20));
        asks("still", x -> x.now(5));
        asks("harsh", x -> x.now(4));
        RodChimes x = Edges.busy();
        Check.due("asked twice", x.best(7, 1), x.best(7, 1));
        Check.due("asked twice", x.comes(7, 1), x.comes(7, 1));
    }

    private static void asks(String name, java.util.function.ToLongFunction<RodChimes> asked) {
        Edges.unchanged(name, asked.applyAsLong(Edges.busy()), Edges::busy, asked);
        Edges.unchanged(name, asked.applyAsLong(Edges.brimful()), Edges::brimful, asked);
    }

    private static int harshOf(int tone, int other) {
        RodChimes x = Check.chime("r" + tone + " 1 9;r" + other + " 1 9;r0 9 1;");
        x.blows(0, 1);
        x.blows(1, 1);
        return x.now(4);
    }

    private static void apart() {
        int[] harsh = {0, 1, 1, 0, 0, 0, 1, 0, 0, 0, 1, 1};
        for (int apart = 0; apart <= 48; apart++) {
            Check.due("0 and " + apart, harsh[apart % 12], harshOf(0, apart));
            Check.due(apart + " and 0", harsh[apart % 12], harshOf(apart, 0));
            Check.due("48 and " + (48 - apart), harsh[apart % 12], harshOf(48, 48 - apart));
        }
    }

    private static void twosThatRing() {
        RodChimes x = Check.chime("r0 1 9;r1 1 9;".repeat(4));
        Check.due("none rings", 0, x.now(4));
        // of tones 0 and 1, turn by turn, each new one is harsh with those of the other tone
        int[] due = {0, 1, 2, 4, 6, 9, 12, 16};
        for (int s = 0; s < 8; s++) {
            x.blows(s, 1);
            Check.due(s + 1 + " ring", due[s], x.now(4));
        }
        x.holds(0);
        Check.due("one is held", 12, x.now(4));
        Check.due("without rods", 0, new RodChimes().now(4));
    }

    /** FAR 8 towards side 0, then 7 towards 3, and so on round; in the 7th calm beat 1, towards 0: rod 1. */
    private static RodChimes seven() {
        RodChimes x = Check.chime("r0 9 1;r0 1 9;" + NUMB.repeat(5));
        x.blows(0, 8);
        x.changes(0, 1);
        return x;
    }

    private static void struckByBeats() {
        RodChimes x = seven();
        for (int n = 0; n <= 20; n++) {
            Check.due("comes(" + n + ", 0)", n >= 7 ? 2 : 0, x.comes(n, 0));
        }
        RodChimes y = Check.chime("r0 1 1;".repeat(8));
        y.blows(7, 9);
        Check.due("what was struck now doesn't count", 0, y.comes(0, 0));
        Check.due("bits", 8, y.comes(1, 0));
        Check.due("up to the last bit", 136, y.comes(2, 0));
    }

    private static void harshestByBeats() {
        RodChimes x = Check.chime("r0 1 2;r1 1 1;r7 1 1;");
        x.blows(0, 5);
        int[] due = {0, 1, 1, 1};
        for (int n = 0; n < due.length; n++) {
            Check.due("greatest behind 1 of " + n, due[n], x.comes(n, 1));
        }
        x.calms();
        Check.due("greatest behind 0", 1, x.comes(0, 1));
        Check.due("greatest behind 0 of 20", 1, x.comes(20, 1));
        x.calms();
        Check.due("it was greatest ahead of now", 0, x.comes(20, 1));
        RodChimes y = Edges.three();
        y.blows(0, 5);
        int[] rising = {0, 1, 2, 2};
        for (int n = 0; n < rising.length; n++) {
            Check.due("greatest behind " + n, rising[n], y.comes(n, 1));
        }
    }

    private static void still() {
        for (int damp = 1; damp <= 3; damp++) {
            RodChimes x = Check.chime("d" + damp + ";" + NUMB.repeat(3));
            Check.due("still already", 0, x.now(5));
            x.blows(0, 8);
            Check.due("by far alone, damp " + damp, (8 + damp - 1) / damp, x.now(5));
        }
        RodChimes y = Check.chime("r0 1 9;r0 9 9;r0 9 9;");
        y.blows(0, 1);
        Check.due("by what rings alone", 9, y.now(5));
        RodChimes z = Check.chime("r0 9 2;r0 9 2;r0 9 2;");
        z.blows(0, 9);
        Check.due("the later one of both", 8, z.now(5));
    }

    private static void bestByBeats() {
        RodChimes x = Edges.three();
        int[] most = {1, 3, 5};
        for (int n = 0; n <= 20; n++) {
            Check.due("best(" + n + ", 0)", most[Math.min(n, 2)], x.best(n, 0));
            Check.due("best(" + n + ", 1)", 1, x.best(n, 1));
        }
        for (int w : WRONG_N) {
            Check.due("best(" + w + ", 0)", -1, () -> x.best(w, 0));
            Check.due("best(" + w + ", 1)", -1, () -> x.best(w, 1));
        }
    }

    private static void gustNumbers() {
        RodChimes x = Check.chime(NUMB.repeat(3) + "r0 7 1;" + NUMB.repeat(4));
        Check.due("the last of all gusts sounds two", 79, x.best(1, 0));
        RodChimes y = Check.chime("r0 9 9;" + "r1 9 9;".repeat(7));
        y.blows(0, 9);
        y.changes(0, 7);
        Check.due("the last of all gusts is not harsh", 79, y.best(0, 1));
        RodChimes z = Edges.three();
        Check.due("the first of all gusts", 1, z.best(0, 0));
        Check.due("the first of all gusts", 1, z.best(0, 1));
    }

    private static void gustsBeatCounts() {
        RodChimes x = Check.chime("r0 9 1;r0 5 1;r0 5 1;");
        Check.due("in the gust's beat alone", 9, x.best(0, 0));
        // 9 sounds rod 0, then rod 1 at far 7; 17 sounds rod 1, then rod 2 at far 5
        Check.due("and in one behind", 9, x.best(1, 0));
        RodChimes y = Check.chime("r0 1 1;".repeat(4));
        y.blows(0, 9);
        Check.due("what rings now was not struck by it", 1, y.best(0, 0));
        Check.due("any gust sounds two", 1, y.best(1, 0));
        // 9 would strike five times, but these two rods alone
        Check.due("a rod struck twice is one rod", 1, y.best(20, 0));
    }

    private static void onlyThatStrike() {
        RodChimes x = Check.chime(NUMB.repeat(3));
        Check.due("weaker ones strike nothing", 9, x.best(0, 1));
        Check.due("nor in calm beats behind", 9, x.best(20, 1));
        RodChimes y = Check.chime("r0 9 1;r1 7 1;r2 9 1;");
        Check.due("by the gust", 9, y.best(0, 1));
        Check.due("in the calm beat behind", 8, y.best(1, 1));
        Check.due("no later", 8, y.best(20, 1));
        y.blows(0, 8);
        Check.due("as it swings over by a weaker gust", 1, y.best(0, 1));
    }

    private static void leastNumber() {
        for (int n = 0; n <= 20; n += 20) {
            RodChimes x = Check.chime("r0 9 9;".repeat(8));
            Check.due("most: all sound one", 9, x.best(n, 0));
            Check.due("mild: all sound one", 9, x.best(n, 1));
            RodChimes none = new RodChimes();
            int beats = n;
            Check.due("most without rods", -9, () -> none.best(beats, 0));
            Check.due("mild without rods", -9, () -> none.best(beats, 1));
        }
        // a gust of 9 sounds a rod whatever was, so with rods there is always one
        for (int far = 1; far <= 8; far++) {
            RodChimes x = Check.chime(NUMB.repeat(3));
            x.blows(2, far);
            Check.due("mild at far " + far, 9, x.best(0, 1));
        }
    }

    private static void lessHarsh() {
        RodChimes x = Check.chime("r0 1 9;r1 1 9;r2 1 9;");
        Check.due("as harsh, whoever changes", -9, x.swap(0, 9, 1));
        Check.due("not harsh without", -9, x.swap(0, 9, 0));
        RodChimes y = Edges.three();
        Check.due("1 without, none by rods 1 and 2", 12, y.swap(0, 5, 1));
        // harsh now, but behind the gust's beat not any more, with or without a change
        RodChimes z = Check.chime("r0 1 2;r1 1 1;r7 9 9;");
        z.blows(0, 1);
        z.blows(1, 1);
        Check.due("harsh now", 1, z.now(4));
        Check.due("what is now doesn't count", -9, z.swap(2, 9, 0));
    }

    private static void swapNumbers() {
        RodChimes x = Edges.three();
        Check.due("rods 0 and 1", 1, x.swap(1, 5, 1));
        // sides 6 and 2 are struck; only tones 3 and 0 there are not harsh
        RodChimes y = Check.chime("r2 1 9;r2 1 9;r0 1 9;r2 1 9;r2 1 9;r2 1 9;r1 1 9;r3 1 9;");
        Check.due("rods 6 and 7", 67, y.swap(6, 9, 1));
        // rods by number, wherever they hang: rod 7 hangs at side 0 now, rod 0 at 7
        y.changes(0, 7);
        Check.due("rods 6 and 7, from other sides", 67, y.swap(6, 9, 1));
    }

    private static void leastHarshSwap() {
        RodChimes x = Check.chime("r0 1 9;r1 1 9;r7 1 9;r7 1 9;r7 1 9;");
        // sides 0 and 2 are struck: tones 0 and 7
        Check.due("not harsh", -9, x.swap(0, 9, 1));
        // sides 1 and 3: tones 1 and 7; 0 with 7, or 7 with 7
        Check.due("by 0 1, or 1 2, or 1 4", 1, x.swap(1, 9, 1));
        RodChimes y = Check.chime("r0 1 9;r4 1 9;r1 1 9;r1 1 9;r7 1 9;");
        Check.due("0 1 mends one of two, 1 2 both", 12, y.swap(0, 9, 2));
    }

    private static void fraction(RodChimes x, int[] asked, int upper, int lower) {
        String call = "odds(" + asked[0] + ", " + asked[1] + ", " + asked[2] + ", ";
        Check.due(call + "0)", upper, () -> x.odds(asked[0], asked[1], asked[2], 0));
        Check.due(call + "1)", lower, () -> x.odds(asked[0], asked[1], asked[2], 1));
    }

    private static void oddsByBeats() {
        RodChimes x = Check.chime("r0 1 1;".repeat(7));
        // far 9 8, 7 6, 5 4, 3 2, 1 0: five rods, one a beat
        for (int n = 0; n <= 20; n++) {
            for (int r = 0; r < 7; r++) {
                fraction(x, new int[] {9, n, r}, Math.min(n + 1, 5), 7);
            }
        }
        for (int strong = 1; strong <= 9; strong++) {
            fraction(x, new int[] {strong, 20, 6}, (strong + 1) / 2, 7);
        }
    }

    private static void anySide() {
        RodChimes x = Check.chime("r0 1 1;".repeat(6));
        x.blows(2, 9);
        for (int strong = 1; strong <= 7; strong++) {
            fraction(x, new int[] {strong, 0, 5}, 1, 1);
            fraction(x, new int[] {strong, 0, 2}, 0, 1);
        }
        fraction(x, new int[] {8, 0, 5}, 1, 6);
        fraction(x, new int[] {9, 0, 5}, 1, 6);
        RodChimes y = Check.chime("r0 9 1;r0 1 1;r0 1 1;");
        fraction(y, new int[] {8, 20, 0}, 0, 1);
        fraction(y, new int[] {9, 0, 0}, 1, 3);
    }

    // ---- the promises

    private static void comesRefused() {
        for (int w : WRONG_N) {
            Edges.unchanged("comes(" + w + ", 0)", -1, Edges::busy, x -> x.comes(w, 0));
            Edges.unchanged("comes(" + w + ", 1)", -1, Edges::busy, x -> x.comes(w, 1));
            Check.due("comes(" + w + ", 0), without rods", -1, () -> new RodChimes().comes(w, 0));
        }
        for (int w : WRONG_WHAT) {
            Edges.unchanged("comes(0, " + w + ")", -1, Edges::busy, x -> x.comes(0, w));
            Edges.unchanged("comes(20, " + w + ")", -1, Edges::busy, x -> x.comes(20, w));
            Check.due("comes(20, " + w + "), without rods", -1, () -> new RodChimes().comes(20, w));
        }
    }

    private static void bestWithoutRods() {
        for (int n = 0; n <= 20; n++) {
            int beats = n;
            Edges.unchanged("best(" + n + ", 0)", -9, RodChimes::new, x -> x.best(beats, 0));
            Edges.unchanged("best(" + n + ", 1)", -9, RodChimes::new, x -> x.best(beats, 1));
        }
    }

    private static void bestRefused() {
        for (int w : WRONG_N) {
            Edges.unchanged("best(" + w + ", 0)", -1, Edges::busy, x -> x.best(w, 0));
            Edges.unchanged("best(" + w + ", 1)", -1, RodChimes::new, x -> x.best(w, 1));
        }
        for (int w : WRONG_WHAT) {
            Edges.unchanged("best(0, " + w + ")", -1, Edges::busy, x -> x.best(0, w));
            Edges.unchanged("best(20, " + w + "), without rods", -1, RodChimes::new, x -> x.best(20, w));
        }
    }

    private static void swapNone() {
        Edges.unchanged("swap(0, 1, 0)", -9, Edges::three, x -> x.swap(0, 1, 0));
        Edges.unchanged("swap(2, 9, 20), all ring", -9, Edges::three, x -> x.swap(2, 9, 20));
        Edges.unchanged("swap(1, 5, 1)", 1, Edges::three, x -> x.swap(1, 5, 1));
    }

    private static void swapRefused() {
        for (int w : WRONG_ROD) {
            Edges.unchanged("swap(" + w + ", 5, 1)", -1, Edges::busy, x -> x.swap(w, 5, 1));
        }
        for (int w : WRONG_STRONG) {
            Edges.unchanged("swap(1, " + w + ", 1)", -1, Edges::busy, x -> x.swap(1, w, 1));
        }
        for (int w : WRONG_N) {
            Edges.unchanged("swap(1, 5, " + w + ")", -1, Edges::busy, x -> x.swap(1, 5, w));
        }
        Edges.unchanged("swap(0, 1, 0), without sides", -1, RodChimes::new, x -> x.swap(0, 1, 0));
        RodChimes eight = Check.chime("r0 1 1;".repeat(8));
        Check.due("the last side", -9, () -> eight.swap(7, 9, 20));
        Check.due("behind it", -1, () -> eight.swap(8, 9, 20));
    }

    private static void leastTerms() {
        int[][] halves = {{4, 1, 2}, {6, 1, 3}, {8, 1, 4}};
        for (int[] h : halves) {
            RodChimes x = Check.chime("r0 1 1;".repeat(h[0]));
            fraction(x, new int[] {9, 0, h[0] - 1}, 1, h[0]);
            fraction(x, new int[] {9, 1, h[0] - 1}, h[1], h[2]);
            fraction(x, new int[] {9, 20, 0}, h[1], h[2]);
        }
        for (int rods = 3; rods <= 8; rods++) {
            RodChimes x = Check.chime(NUMB.repeat(rods));
            fraction(x, new int[] {8, 20, rods - 1}, 0, 1);
        }
        RodChimes all = Edges.three();
        fraction(all, new int[] {9, 2, 0}, 1, 1);
    }

    private static void oddsRefused() {
        for (int what = 0; what <= 1; what++) {
            int w0 = what;
            for (int w : WRONG_STRONG) {
                Edges.unchanged("odds(" + w + ", 3, 1, " + what + ")", -1, Edges::busy, x -> x.odds(w, 3, 1, w0));
            }
            for (int w : WRONG_N) {
                Edges.unchanged("odds(5, " + w + ", 1, " + what + ")", -1, Edges::busy, x -> x.odds(5, w, 1, w0));
            }
            for (int w : WRONG_ROD) {
                Edges.unchanged("odds(5, 3, " + w + ", " + what + ")", -1, Edges::busy, x -> x.odds(5, 3, w, w0));
            }
            Edges.unchanged("odds(1, 0, 0), without rods", -1, RodChimes::new, x -> x.odds(1, 0, 0, w0));
        }
        for (int w : WRONG_WHAT) {
            Edges.unchanged("odds(5, 3, 1, " + w + ")", -1, Edges::busy, x -> x.odds(5, 3, 1, w));
        }
    }
}
