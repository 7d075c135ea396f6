/** Promises 8 to 12: gusts, calm beats, changes, rods held, all of it undone. */
public final class DoneTests {
    private static final String THREE = "r0 1 5;r1 1 5;r7 1 5;";

    public static void main(String[] args) {
        gusts();
        wrongGusts();
        swingsOver();
        dampens();
        rings();
        lastBeat();
        changes();
        holds();
        undone();
        tenAreKnown();
        refusedIsNotUndone();
        Check.end("DoneTests");
    }

    private static void clapper(String when, RodChimes x, int towards, int far) {
        Check.due(when + ": towards", towards, x.now(1));
        Check.due(when + ": far", far, x.now(2));
    }

    private static void gusts() {
        RodChimes x = Check.chime("d2;r0 3 2;r0 4 2;r0 9 2;r0 1 2;r0 2 2;");
        Check.due("as far as the gap", 0, x.blows(0, 3));
        clapper("struck", x, 0, 2);
        Check.due("less far than the gap", -9, x.blows(1, 2));
        clapper("as strong as it is far", x, 1, 2);
        Check.due("a weaker gust, down to far 0", -9, x.blows(0, 1));
        clapper("swung over", x, 3, 0);
        Check.due("a stronger gust", -9, x.blows(2, 8));
        clapper("blown", x, 2, 8);
        Check.due("a weaker gust strikes as it swings over", 4, x.blows(0, 7));
        clapper("swung over, struck", x, 4, 5);
        Check.due("farther than the gap", 3, x.blows(3, 9));
        clapper("struck", x, 3, 8);
        Check.due("a calm beat, past the last side", 0, x.calms());
        clapper("past the last side", x, 0, 5);
        Check.due("beats", 7, x.now(0));
    }

    private static void wrongGusts() {
        RodChimes x = Check.chime(THREE);
        x.blows(1, 4);
        int[] sides = {-1, 3, 8, Integer.MIN_VALUE, Integer.MAX_VALUE};
        for (int s : sides) {
            Check.due("blows(" + s + ", 9)", -1, () -> x.blows(s, 9));
        }
        int[] strengths = {-1, 0, 10, Integer.MIN_VALUE, Integer.MAX_VALUE};
        for (int s : strengths) {
            Check.due("blows(0, " + s + ")", -1, () -> x.blows(0, s));
        }
        Check.due("no beat by wrong gusts", 1, x.now(0));
        clapper("wrong gusts", x, 1, 3);
        Check.due("nothing to undo by wrong gusts", 1, x.now(6));
    }

    private static void swingsOver() {
        for (int rods = 3; rods <= 8; rods++) {
            for (int side = 0; side < rods; side++) {
                RodChimes x = Check.chime("r0 9 1;".repeat(rods));
                x.blows(side, 8);
                Check.due("calm, none struck", -9, x.calms());
                clapper(rods + " sides from " + side, x, (side + rods / 2) % rods, 7);
            }
        }
    }

    private static void dampens() {
        int[][] fars = {{7, 6, 5, 4}, {6, 4, 2, 0}, {5, 2, 0, 0}};
        for (int damp = 1; damp <= 3; damp++) {
            RodChimes x = Check.chime("r0 9 1;r0 9 1;r0 9 1;d" + damp + ";");
            x.blows(0, 8);
            for (int far : fars[damp - 1]) {
                x.calms();
                Check.due("damp " + damp + ": far", far, x.now(2));
            }
        }
    }

    private static void rings() {
        RodChimes x = Check.chime("r0 1 1;r0 1 3;r0 1 9;");
        Check.due("struck", 0, x.blows(0, 1));
        Check.due("rings for a beat", 1, x.rod(0, 4));
        Check.due("struck again", 0, x.blows(0, 1));
        Check.due("rings anew", 1, x.rod(0, 4));
        x.blows(1, 1);
        Check.due("rings no more", 0, x.rod(0, 4));
        Check.due("rings for three", 3, x.rod(1, 4));
        x.calms();
        Check.due("rings for two", 2, x.rod(1, 4));
        x.blows(1, 1);
        Check.due("rings anew for three", 3, x.rod(1, 4));
        x.blows(2, 1);
        Check.due("rings for nine", 9, x.rod(2, 4));
        Check.due("two ring", 6, x.now(3));
    }

    /** An object is promised for 512 calls; the last beat is looked at all the same. */
    private static void lastBeat() {
        RodChimes x = Check.chime(THREE);
        for (int i = 1; i <= 999; i++) {
            x.calms();
        }
        Check.due("the last beat", 999, x.now(0));
        Check.due("calms() at the last beat", -2, () -> x.calms());
        Check.due("blows() at the last beat", -2, () -> x.blows(0, 1));
        Check.due("a wrong gust at the last beat", -1, () -> x.blows(3, 1));
        Check.due("still the last beat", 999, x.now(0));
        Check.due("undo() at the last beat", 9, x.undo());
        Check.due("a beat less", 998, x.now(0));
    }

    private static void changes() {
        RodChimes x = Check.chime(THREE);
        x.blows(0, 5);
        x.calms();
        Check.due("harsh then", 1, x.changes(0, 2));
        Check.due("rod 0", 2, x.rod(0, 3));
        Check.due("rod 1", 1, x.rod(1, 3));
        Check.due("rod 2", 0, x.rod(2, 3));
        Check.due("they ring on", 3, x.now(3));
        Check.due("for as long", 4, x.rod(0, 4));
        Check.due("no beat", 2, x.now(0));
        clapper("changed", x, 1, 2);
        Check.due("strikes the rod there now", 0, x.calms());
        int[][] wrong = {{0, 0}, {2, 2}, {-1, 0}, {0, -1}, {3, 0}, {0, 3}, {-1, -1}, {3, 3},
            {Integer.MIN_VALUE, 0}, {0, Integer.MAX_VALUE}};
        for (int[] w : wrong) {
            Check.due("changes(" + w[0] + ", " + w[1] + ")", -1, () -> x.changes(w[0], w[1]));
        }
        Check.due("wrong changes are none", 4, x.now(6));
    }

    private static void holds() {
        RodChimes x = Check.chime(THREE);
        Check.due("holds one that doesn't ring", -2, x.holds(0));
        x.blows(0, 5);
        x.calms();
        Check.due("harsh ahead", 1, x.now(4));
        Check.due("holds(0)", 4, x.holds(0));
        Check.due("does not ring", 0, x.rod(0, 4));
        Check.due("the other one rings", 2, x.now(3));
        Check.due("harsh no more", 0, x.now(4));
        Check.due("no beat", 2, x.now(0));
        Check.due("holds(0) again", -2, x.holds(0));
        Check.due("holds(-1)", -1, () -> x.holds(-1));
        Check.due("holds(3)", -1, () -> x.holds(3));
        Check.due("holds(max)", -1, () -> x.holds(Integer.MAX_VALUE));
        Check.due("three were done", 3, x.now(6));
    }

    private static String all(RodChimes x) {
        StringBuilder out = new StringBuilder();
        for (int what = 0; what <= 4; what++) {
            out.append(x.now(what)).append(' ');
        }
        for (int r = 0; r < x.count(0); r++) {
            out.append(x.rod(r, 3)).append('/').append(x.rod(r, 4)).append(' ');
        }
        return out.toString();
    }

    private static void undone() {
        RodChimes x = Check.chime(THREE);
        String[] was = new String[6];
        was[0] = all(x);
        x.blows(0, 7);
        was[1] = all(x);
        x.calms();
        was[2] = all(x);
        x.changes(0, 2);
        was[3] = all(x);
        x.holds(1);
        was[4] = all(x);
        x.blows(1, 2);
        for (int left = 4; left >= 0; left--) {
            Check.due("how many more", left, x.undo());
            Check.due("as now(6) says", left, x.now(6));
            Check.holds("as it was: " + was[left] + " is " + all(x), was[left].equals(all(x)));
        }
        Check.due("none more", -2, x.undo());
        Check.holds("nothing changed", was[0].equals(all(x)));
        Check.due("done anew", 0, x.blows(0, 1));
        Check.due("one may be", 1, x.now(6));
    }

    private static void tenAreKnown() {
        RodChimes x = Check.chime(THREE);
        for (int i = 1; i <= 23; i++) {
            x.calms();
            Check.due("known behind " + i, Math.min(i, 10), x.now(6));
        }
        for (int left = 9; left >= 5; left--) {
            Check.due("undo()", left, x.undo());
        }
        for (int i = 6; i <= 8; i++) {
            x.blows(0, 1);
            Check.due("known again", i, x.now(6));
        }
        Check.due("beat", 21, x.now(0));
        for (int left = 7; left >= 0; left--) {
            Check.due("undo()", left, x.undo());
        }
        Check.due("older ones are lost", -2, x.undo());
        Check.due("the beat that was 10 ago", 13, x.now(0));
    }

    private static void refusedIsNotUndone() {
        RodChimes x = Check.chime(THREE);
        x.calms();
        x.blows(3, 1);
        x.changes(1, 1);
        x.holds(0);
        x.holds(9);
        x.hears(0, 0, 0);
        x.keep(0);
        x.comes(20, 0);
        x.best(20, 1);
        Check.due("one is known", 1, x.now(6));
        Check.due("undo()", 0, x.undo());
        Check.due("the beat", 0, x.now(0));
        Check.due("heard is not undone", 1, x.count(2));
    }
}
