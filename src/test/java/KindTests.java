/** Promises 21 to 23 and 25: rates by kinds, the trace, images. */
public final class KindTests {
    private static final String THREE = "r0 1 5;r1 1 5;r7 1 5;";

    public static void main(String[] args) {
        rates();
        traces();
        images();
        imageHoldsAll();
        imagesAreApart();
        Check.end("KindTests");
    }

    private static RodChimes struckTwice() {
        RodChimes x = Check.chime(THREE);
        x.blows(0, 5);
        x.calms();
        return x;
    }

    private static void rates() {
        RodChimes x = struckTwice();
        // tones 0, 1, 7; ringing for 4, 5, 0; far 2; beat 2
        int[][] due = {{0, 1, 7}, {4, 6, 7}, {-2, -1, 5}, {8, 12, 14}, {-2, 0, 7}, {2, 3, 9}};
        for (int kind = 0; kind < 6; kind++) {
            for (int r = 0; r < 3; r++) {
                Check.due("rate(" + kind + ", " + r + ")", due[kind][r], x.rate(kind, r));
            }
        }
        int[] wrong = {-1, 6, Integer.MIN_VALUE, Integer.MAX_VALUE};
        long trace = x.trace();
        for (int k : wrong) {
            Check.due("rate(" + k + ", 0)", -1000000, () -> x.rate(k, 0));
        }
        for (int r : new int[] {-1, 3, Integer.MIN_VALUE, Integer.MAX_VALUE}) {
            Check.due("rate(0, " + r + ")", -1000000, () -> x.rate(0, r));
            Check.due("rate(4, " + r + ")", -1000000, () -> x.rate(4, r));
        }
        Check.due("refused: no trace", trace, x.trace());
        x.changes(0, 2);
        Check.due("by its number, not its side", -2, x.rate(4, 0));
    }

    private static void traces() {
        int[] due = {1, 11, 101, 1011, 10101, 100001};
        for (int kind = 0; kind < 6; kind++) {
            RodChimes x = struckTwice();
            Check.due("no trace at first", 0, x.trace());
            x.rate(kind, 1);
            Check.due("trace of kind " + kind, due[kind], x.trace());
            x.rate(kind, 2);
            Check.due("trace of kind " + kind + ", twice", 2 * due[kind], x.trace());
        }
        RodChimes x = struckTwice();
        for (int i = 0; i < 400; i++) {
            x.rate(5, 0);
        }
        Check.due("a long trace", 40000400L, x.trace());
        x.keep(0);
        x.rate(0, 0);
        x.back(0);
        x.holds(0);
        x.undo();
        Check.due("neither in an image nor undone", 40000401L, x.trace());
    }

    private static void images() {
        RodChimes x = Check.chime(THREE);
        int[] wrong = {-1, 2, Integer.MIN_VALUE, Integer.MAX_VALUE};
        for (int image : wrong) {
            Check.due("keep(" + image + ")", -1, () -> x.keep(image));
            Check.due("back(" + image + ")", -1, () -> x.back(image));
        }
        Check.due("back(0), none kept", -2, x.back(0));
        Check.due("back(1), none kept", -2, x.back(1));
        x.calms();
        Check.due("refused back() leaves what may be undone", 1, x.now(6));
        Check.due("keep(1)", 1, x.keep(1));
        Check.due("keep() leaves it, too", 1, x.now(6));
        Check.due("back(0), 1 is kept", -2, x.back(0));
        x.calms();
        x.calms();
        Check.due("back(1)", 1, x.back(1));
        Check.due("nothing can be undone", -2, x.undo());
        Check.due("nothing may be", 0, x.now(6));
        x.calms();
        Check.due("back(1) again", 1, x.back(1));
        x.calms();
        Check.due("what came behind back() can", 0, x.undo());
    }

    private static void imageHoldsAll() {
        RodChimes x = struckTwice();
        x.changes(0, 1);
        Check.due("keep(0)", 2, x.keep(0));
        x.hears(0, 0, 1);
        x.type('r');
        x.blows(2, 9);
        x.changes(1, 2);
        x.holds(0);
        x.calms();
        Check.due("back(0)", 2, x.back(0));
        int[] now = {2, 1, 2, 3, 1, 6, 0};
        for (int what = 0; what < now.length; what++) {
            Check.due("back: now(" + what + ")", now[what], x.now(what));
        }
        int[] sides = {1, 0, 2};
        int[] rings = {4, 5, 0};
        for (int r = 0; r < 3; r++) {
            Check.due("back: side of " + r, sides[r], x.rod(r, 3));
            Check.due("back: ringing of " + r, rings[r], x.rod(r, 4));
        }
        Check.due("heard stays", 1, x.count(2));
        Check.due("the text stays", 1, x.count(3));
    }

    private static void imagesAreApart() {
        RodChimes x = struckTwice();
        x.keep(0);
        x.calms();
        x.keep(1);
        x.calms();
        Check.due("back(0)", 2, x.back(0));
        Check.due("back(1)", 3, x.back(1));
        x.blows(0, 9);
        Check.due("kept anew", 4, x.keep(0));
        x.calms();
        Check.due("back(0), anew", 4, x.back(0));
        Check.due("far", 8, x.now(2));
        Check.due("back(1), as it was", 3, x.back(1));
        Check.due("far", 0, x.now(2));
    }
}
