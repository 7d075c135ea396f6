/** The edges of what is said of gusts in part 3 of the terms, and of promises 17 to 20. */
final class GustEdges {
    private static final int[] WRONG_N = {Edges.MIN, -1, 21, 60, Edges.MAX};
    private static final int[] WRONG_BIT = {Edges.MIN, -1, 2, 32, Edges.MAX};
    private static final int[] WRONG_ROD = {Edges.MIN, -1, 3, 8, 32, Edges.MAX};

    private GustEdges() {
    }

    static void tell(Edges e) {
        e.term("HEARD (6 at most)", GustEdges::sixAreHeard);
        e.term("behind an unknown GUST NOW and n (0 .. 20) calm BEATS a ROD was STRUCK (1), or was not (0)",
            GustEdges::heardByBeats);
        e.term("GUSTS (of all SIDES and 1 .. 9) by which all that was HEARD is so", GustEdges::ofAllGusts);
        e.term("how many; the first (as MOST); NONE", GustEdges::theFirst);
        e.term("the greater part of these is smallest, of several the lowest", GustEdges::smallestPart);
        e.term("NONE (one can be at most)", GustEdges::oneCanBe);
        promises(e);
    }

    private static void promises(Edges e) {
        e.promise(17, "HEARD: how much there is.", GustEdges::howMuchIsHeard);
        e.promise(17, "BAD; FULL.", GustEdges::hearsRefused);
        e.promise(18, "Nothing is HEARD: how much was.", GustEdges::forgets);
        e.promise(19, "GUSTS: how many (what = 0), the first (1; NONE).", GustEdges::gustsNone);
        e.promise(19, "BAD.", GustEdges::gustsRefused);
        e.promise(20, "LISTEN; NONE.", GustEdges::listenNone);
        e.promise(20, "BAD.", GustEdges::listenRefused);
    }

    private static void fit(String when, RodChimes x, int many, int first) {
        Check.due(when + ": how many", many, () -> x.gusts(0));
        Check.due(when + ": the first", first, () -> x.gusts(1));
    }

    // ---- the terms

    private static void sixAreHeard() {
        RodChimes x = Edges.three();
        for (int round = 0; round < 3; round++) {
            for (int i = 1; i <= 6; i++) {
                Check.due("heard", i, x.hears(0, 0, 1));
            }
            Check.due("a seventh", -3, x.hears(1, 0, 1));
            fit("six times the same", x, 9, 1);
            x.forget();
        }
        // the last of six is looked at, too
        for (int i = 1; i <= 5; i++) {
            x.hears(0, 0, 1);
        }
        x.hears(0, 0, 0);
        fit("the last speaks against the others", x, 0, -9);
    }

    /**
     * Rod 1 alone can be struck by less than 9. A gust towards its side does so (9 strengths), one
     * towards the side from where it is reached in k beats does so if FAR is 1 then (9 - k strengths).
     */
    private static void heardByBeats() {
        int[] struck = {9, 17, 24, 30, 35, 39, 42};
        for (int n = 0; n <= 20; n++) {
            RodChimes x = Check.chime("r0 9 1;r0 1 9;" + "r0 9 1;".repeat(5));
            int many = struck[Math.min(n, 6)];
            Check.due("struck", 1, x.hears(1, n, 1));
            // side 0 is 5 beats away: a gust of 6 towards it is the first one then
            fit("struck behind " + n, x, many, n < 5 ? 11 : 6);
            x.forget();
            Check.due("not struck", 1, x.hears(1, n, 0));
            fit("not struck behind " + n, x, 63 - many, 1);
            x.hears(1, n, 1);
            fit("both behind " + n, x, 0, -9);
        }
        RodChimes y = Edges.three();
        y.blows(1, 9);
        y.hears(1, 0, 0);
        // far 8: all weaker gusts swing it over to side 2, a gust of 8 or 9 blows it to 0 or 2
        fit("what rings now was not struck by it", y, 25, 1);
    }

    private static void ofAllGusts() {
        for (int rods = 3; rods <= 8; rods++) {
            RodChimes x = Check.chime("r0 9 1;".repeat(rods));
            fit("nothing heard", x, 9 * rods, 1);
            for (int r = 0; r < rods; r++) {
                x.forget();
                x.hears(r, 20, 1);
                fit("rod " + r + " of " + rods, x, 1, 10 * r + 9);
            }
        }
        RodChimes weak = Check.chime("r0 1 1;r0 1 1;r0 2 1;");
        for (int r = 0; r < 3; r++) {
            weak.hears(r, 0, 0);
        }
        fit("the weakest towards the last side", weak, 1, 21);
    }

    private static void theFirst() {
        RodChimes x = Edges.three();
        fit("the first of all", x, 27, 1);
        x.hears(0, 0, 0);
        fit("not towards side 0", x, 18, 11);
        x.hears(1, 0, 0);
        fit("towards side 2", x, 9, 21);
        x.hears(2, 0, 0);
        fit("towards no side", x, 0, -9);
        RodChimes eight = Check.chime("r0 9 1;".repeat(8));
        eight.hears(7, 0, 1);
        fit("the last of all", eight, 1, 79);
        fit("without rods", new RodChimes(), 0, -9);
    }

    private static void smallestPart() {
        RodChimes x = Edges.three();
        Check.due("all alike: the lowest", 0, x.listen(0));
        RodChimes y = Check.chime("r0 9 1;".repeat(7) + "r0 1 1;");
        Check.due("the last rod", 7, y.listen(0));
        RodChimes z = Check.chime("r0 9 1;r0 1 1;r0 1 1;");
        Check.due("the lower of two", 1, z.listen(0));
        // of gusts towards side 0, by rod 1 behind one beat: 7 of 9, by rod 2 behind two: 5 of 9
        x.hears(0, 0, 1);
        Check.due("rods 1 and 2 tell nothing yet: the lowest", 0, x.listen(0));
        Check.due("7 to 2 is less than 9 to 0", 1, x.listen(1));
        Check.due("5 to 4 is less than 7 to 2", 2, x.listen(2));
        Check.due("and later", 2, x.listen(20));
    }

    private static void oneCanBe() {
        RodChimes two = Check.chime("r0 9 1;r0 8 1;r0 9 1;");
        two.hears(1, 0, 1);
        fit("two can be", two, 2, 18);
        Check.due("two can be", 0, two.listen(0));
        RodChimes one = Check.chime("r0 9 1;r0 9 1;r0 9 1;");
        one.hears(1, 0, 1);
        fit("one can be", one, 1, 19);
        Check.due("one can be", -9, one.listen(0));
        Check.due("one can be", -9, one.listen(20));
        one.hears(1, 0, 0);
        fit("none can be", one, 0, -9);
        Check.due("none can be", -9, one.listen(0));
        weakestCanBe();
    }

    /** Gusts of 1 are among those that can be, and there are none of 0, nor towards a side behind the last. */
    private static void weakestCanBe() {
        RodChimes two = Check.chime("r0 1 1;r0 2 1;r0 2 1;");
        RodChimes one = Check.chime("r0 1 1;r0 1 1;r0 2 1;");
        RodChimes none = Edges.three();
        for (int r = 0; r < 3; r++) {
            two.hears(r, 20, 0);
            one.hears(r, 0, 0);
            none.hears(r, 0, 0);
        }
        fit("11 and 21 can be", two, 2, 11);
        Check.due("11 and 21 can be", 0, two.listen(0));
        fit("21 can be", one, 1, 21);
        Check.due("21 can be", -9, one.listen(0));
        fit("none can be", none, 0, -9);
        Check.due("none can be", -9, none.listen(20));
    }

    // ---- the promises

    private static void howMuchIsHeard() {
        RodChimes x = Check.chime("r0 1 1;".repeat(8));
        int[][] edges = {{0, 0, 0}, {7, 20, 1}, {7, 0, 0}, {0, 20, 1}, {0, 20, 1}, {0, 20, 0}};
        for (int i = 0; i < 6; i++) {
            Check.due("heard", i + 1, x.hears(edges[i][0], edges[i][1], edges[i][2]));
            Check.due("count(2)", i + 1, x.count(2));
        }
    }

    private static void hearsRefused() {
        for (int w : WRONG_ROD) {
            Edges.unchanged("hears(" + w + ", 0, 0)", -1, Edges::busy, x -> x.hears(w, 0, 0));
            Edges.unchanged("hears(" + w + ", 0, 0), with six heard", -1, Edges::brimful, x -> x.hears(w, 0, 0));
        }
        for (int w : WRONG_N) {
            Edges.unchanged("hears(1, " + w + ", 1)", -1, Edges::busy, x -> x.hears(1, w, 1));
            Edges.unchanged("hears(1, " + w + ", 1), with six heard", -1, Edges::brimful, x -> x.hears(1, w, 1));
        }
        for (int w : WRONG_BIT) {
            Edges.unchanged("hears(2, 20, " + w + ")", -1, Edges::busy, x -> x.hears(2, 20, w));
            Edges.unchanged("hears(2, 20, " + w + "), with six heard", -1, Edges::brimful, x -> x.hears(2, 20, w));
        }
        Edges.unchanged("hears(0, 0, 0), without rods", -1, RodChimes::new, x -> x.hears(0, 0, 0));
        Edges.unchanged("a seventh", -3, Edges::brimful, x -> x.hears(0, 0, 0));
        Edges.unchanged("a seventh", -3, Edges::brimful, x -> x.hears(2, 20, 1));
    }

    private static void forgets() {
        Edges.unchanged("forget() of nothing", 0, Edges::three, x -> x.forget());
        Edges.unchanged("forget() without rods", 0, RodChimes::new, x -> x.forget());
        RodChimes x = Edges.brimful();
        Check.due("forget() of six", 6, x.forget());
        Check.due("nothing is heard", 0, x.count(2));
        fit("all can be", x, 27, 1);
        Check.due("forget() again", 0, x.forget());
        Check.due("the first anew", 1, x.hears(0, 0, 0));
        Check.due("what may be undone stays", 10, x.now(6));
    }

    private static void gustsNone() {
        Edges.unchanged("gusts(0), without rods", 0, RodChimes::new, x -> x.gusts(0));
        Edges.unchanged("gusts(1), without rods", -9, RodChimes::new, x -> x.gusts(1));
        Edges.unchanged("gusts(0), none", 0, GustEdges::against, x -> x.gusts(0));
        Edges.unchanged("gusts(1), none", -9, GustEdges::against, x -> x.gusts(1));
        Edges.unchanged("gusts(0), all of eight sides", 72, () -> Check.chime("r0 1 1;".repeat(8)), x -> x.gusts(0));
    }

    /** No gust is as was heard. */
    private static RodChimes against() {
        RodChimes x = Edges.busy();
        x.hears(0, 0, 1);
        x.hears(0, 0, 0);
        return x;
    }

    private static void gustsRefused() {
        for (int w : WRONG_BIT) {
            Edges.unchanged("gusts(" + w + ")", -1, Edges::brimful, x -> x.gusts(w));
            Edges.unchanged("gusts(" + w + "), without rods", -1, RodChimes::new, x -> x.gusts(w));
        }
    }

    private static void listenNone() {
        for (int n = 0; n <= 20; n += 20) {
            int beats = n;
            Edges.unchanged("listen(" + n + "), without rods", -9, RodChimes::new, x -> x.listen(beats));
            Edges.unchanged("listen(" + n + "), none can be", -9, GustEdges::against, x -> x.listen(beats));
        }
        Edges.unchanged("listen(0)", 0, Edges::three, x -> x.listen(0));
    }

    private static void listenRefused() {
        for (int w : WRONG_N) {
            Edges.unchanged("listen(" + w + ")", -1, Edges::busy, x -> x.listen(w));
            Edges.unchanged("listen(" + w + "), without rods", -1, RodChimes::new, x -> x.listen(w));
            Edges.unchanged("listen(" + w + "), none can be", -1, GustEdges::against, x -> x.listen(w));
        }
    }
}
