/** Promises 17 to 20: what was heard, forgotten, which gusts it leaves, which rod to listen for. */
public final class GustTests {
    private static final String THREE = "r0 1 5;r1 1 5;r7 1 5;";

    public static void main(String[] args) {
        hears();
        wrongNumbers();
        whichGusts();
        heardIsOfNow();
        listens();
        Check.end("GustTests");
    }

    private static void hears() {
        RodChimes x = Check.chime(THREE);
        for (int i = 1; i <= 6; i++) {
            Check.due("heard", i, x.hears(i % 3, i, i % 2));
            Check.due("count(2)", i, x.count(2));
        }
        Check.due("a seventh", -3, () -> x.hears(0, 0, 0));
        Check.due("a wrong seventh", -1, () -> x.hears(3, 0, 0));
        Check.due("six are heard", 6, x.count(2));
        Check.due("forget()", 6, x.forget());
        Check.due("nothing is heard", 0, x.count(2));
        Check.due("forget() again", 0, x.forget());
        Check.due("heard anew", 1, x.hears(2, 20, 1));
        x.keep(0);
        x.calms();
        x.undo();
        x.back(0);
        Check.due("neither undone nor in an image", 1, x.count(2));
    }

    private static void wrongNumbers() {
        RodChimes x = Check.chime(THREE);
        int[][] wrong = {{-1, 0, 0}, {3, 0, 0}, {0, -1, 0}, {0, 21, 0}, {0, 0, -1}, {0, 0, 2},
            {Integer.MIN_VALUE, 0, 0}, {0, Integer.MAX_VALUE, 1}, {1, 1, Integer.MIN_VALUE}};
        for (int[] w : wrong) {
            Check.due("hears(" + w[0] + ", " + w[1] + ", " + w[2] + ")", -1, () -> x.hears(w[0], w[1], w[2]));
        }
        Check.due("nothing is heard", 0, x.count(2));
        Check.due("gusts(-1)", -1, () -> x.gusts(-1));
        Check.due("gusts(2)", -1, () -> x.gusts(2));
        Check.due("listen(-1)", -1, () -> x.listen(-1));
        Check.due("listen(21)", -1, () -> x.listen(21));
    }

    private static void fit(String when, RodChimes x, int many, int first) {
        Check.due(when + ": how many", many, x.gusts(0));
        Check.due(when + ": the first", first, x.gusts(1));
    }

    private static void whichGusts() {
        RodChimes x = Check.chime(THREE);
        fit("nothing heard", x, 27, 1);
        x.hears(0, 0, 1);
        fit("rod 0 by the gust", x, 9, 1);
        x.hears(1, 1, 1);
        fit("rod 1 in the calm beat behind", x, 7, 3);
        x.hears(2, 2, 0);
        fit("not rod 2", x, 2, 3);
        Check.due("none tells them apart: the lowest", 0, x.listen(20));
        x.hears(0, 20, 0);
        fit("it can't be", x, 0, -9);
        Check.due("nothing to listen for", -9, x.listen(0));
        x.forget();
        fit("forgotten", x, 27, 1);
        x.hears(2, 0, 0);
        x.hears(2, 1, 1);
        // from side 1, strong enough to be at 2 in the next beat: s - 2 >= 1
        fit("not by the gust, but behind it", x, 7, 13);
    }

    private static void heardIsOfNow() {
        RodChimes x = Check.chime(THREE);
        x.hears(1, 0, 1);
        fit("at rest", x, 9, 11);
        x.blows(0, 5);
        fit("as things are now", x, 15, 1);
        x.changes(1, 2);
        fit("with rods changed", x, 6, 24);
        x.undo();
        x.undo();
        fit("undone", x, 9, 11);
    }

    private static void listens() {
        RodChimes x = Check.chime("r0 9 1;r1 1 1;r2 5 1;");
        Check.due("9 of 27 is nearest to half", 1, x.listen(0));
        x.hears(1, 0, 0);
        Check.due("5 of 18", 2, x.listen(0));
        x.hears(0, 0, 1);
        fit("one is left", x, 1, 9);
        Check.due("one can be at most", -9, x.listen(0));
        RodChimes y = Check.chime(THREE);
        Check.due("of several the lowest", 0, y.listen(0));
        y.hears(0, 0, 1);
        // strong 1 .. 9: rod 1 in the next beat by 7, rod 2 behind it by 5
        Check.due("rod 1 in one beat", 1, y.listen(1));
        Check.due("rod 2 in two", 2, y.listen(2));
        Check.due("asked twice", 2, y.listen(2));
        Check.due("nothing tells by the gust's beat", 0, y.listen(0));
        listensToAllGusts();
        RodChimes eight = Check.chime("r0 9 1;".repeat(7) + "r0 1 1;");
        fit("eight rods", eight, 72, 1);
        Check.due("the last of eight rods", 7, () -> eight.listen(0));
    }

    /** The weakest and the strongest gusts are among those that are told apart, and no others. */
    private static void listensToAllGusts() {
        RodChimes strong = Check.chime("r0 9 1;r0 8 1;r0 9 1;");
        strong.hears(1, 0, 1);
        fit("18 and 19", strong, 2, 18);
        Check.due("two can be", 0, strong.listen(0));
        RodChimes weak = Check.chime("r0 1 1;r0 2 1;r0 2 1;");
        RodChimes weakest = Check.chime("r0 1 1;r0 1 1;r0 2 1;");
        for (int r = 0; r < 3; r++) {
            weak.hears(r, 0, 0);
            weakest.hears(r, 0, 0);
        }
        fit("11 and 21", weak, 2, 11);
        Check.due("two can be", 0, weak.listen(0));
        fit("21", weakest, 1, 21);
        Check.due("one can be", -9, weakest.listen(0));
    }
}
