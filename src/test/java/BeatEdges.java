/** The edges of part 2 of the terms, and of promises 8 to 12: beats, changes, rods held, all of it undone. */
final class BeatEdges {
    /** Only a FAR of 9 strikes: the clapper can be watched. */
    private static final String NUMB = "r0 9 1;";

    private BeatEdges() {
    }

    static void tell(Edges e) {
        e.term("The CLAPPER is towards SIDE 0, FAR 0 at first; no ROD rings.", BeatEdges::atFirst);
        e.term("(Without a text that was read there are no RODS, and no SIDES.)", BeatEdges::withoutText);
        e.term("A BEAT (999 at most)", BeatEdges::lastBeat);
        e.term("first each ROD that rings does so for a BEAT less (at 0 not any more)", BeatEdges::ringsOut);
        e.term("(from a SIDE it is blown towards, STRONG 1 .. 9)", BeatEdges::strengths);
        e.term("if that is as STRONG as it is FAR, or more", BeatEdges::asStrongAsFar);
        e.term("else, and in a calm BEAT, it swings over", BeatEdges::swingsInAnyCase);
        e.term("half of SIDES (cut) further on (behind the last comes 0)", BeatEdges::behindTheLastSide);
        e.term("DAMP less FAR (0 at least)", BeatEdges::farFallsToZero);
        e.term("if it is FAR as GAP of the ROD there, or more (and FAR at all)", BeatEdges::farAsGap);
        e.term("it rings for RING BEATS from now on", BeatEdges::ringsAnew);
        e.term("the CLAPPER is 1 less FAR", BeatEdges::oneLessFar);
        e.term("two RODS change their SIDES (they ring on)", BeatEdges::ringOnChanged);
        e.term("a ROD that rings does not any more", BeatEdges::heldStill);
        e.term("the latest blows(), calms(), changes(), holds() that was not refused", BeatEdges::notRefused);
        e.term("(10 are known, older ones are lost)", BeatEdges::tenAreKnown);
        promises(e);
    }

    private static void promises(Edges e) {
        e.promise(8, "A BEAT with a GUST: the ROD that is STRUCK; NONE.", BeatEdges::blowsAnswers);
        e.promise(8, "BAD; STATE: BEAT 999.", BeatEdges::blowsRefused);
        e.promise(9, "A calm BEAT: the ROD that is STRUCK; NONE.", BeatEdges::calmsAnswers);
        e.promise(9, "STATE: BEAT 999, there are no RODS.", BeatEdges::calmsRefused);
        e.promise(10, "CHANGED: HARSH then.", BeatEdges::changesAnswers);
        e.promise(10, "BAD (alike ones, too).", BeatEdges::changesRefused);
        e.promise(11, "HELD: for how many BEATS it would have rung.", BeatEdges::holdsAnswers);
        e.promise(11, "BAD; STATE: it doesn't ring.", BeatEdges::holdsRefused);
        e.promise(12, "UNDONE: how many more may be.", BeatEdges::undoAnswers);
        e.promise(12, "STATE: none.", BeatEdges::undoRefused);
    }

    private static void clapper(String when, RodChimes x, int towards, int far) {
        Check.due(when + ": towards", towards, x.now(1));
        Check.due(when + ": far", far, x.now(2));
    }

    // ---- the terms

    private static void atFirst() {
        RodChimes x = new RodChimes();
        clapper("a new object", x, 0, 0);
        Check.due("nothing rings", 0, x.now(3));
        RodChimes y = Edges.busy();
        y.blows(2, 9);
        y.chime();
        clapper("read anew", y, 0, 0);
        Check.due("nothing rings", 0, y.now(3));
    }

    private static void withoutText() {
        String[] texts = {"", "r0 1 1;r0 1 1;", "r0 1 1;r0 1 1;r0 1 1", "r0 1 1;r0 1 1;r0 1 1;x"};
        for (String text : texts) {
            RodChimes x = Edges.typed(text);
            x.chime();
            Check.due("rods", 0, x.count(0));
            Check.due("rod(0, 0)", -1, () -> x.rod(0, 0));
            Check.due("side(0)", -1, () -> x.side(0));
            Check.due("blows(0, 9)", -1, () -> x.blows(0, 9));
            Check.due("calms()", -2, () -> x.calms());
            Check.due("changes(0, 1)", -1, () -> x.changes(0, 1));
            Check.due("holds(0)", -1, () -> x.holds(0));
            Check.due("comes(20, 0)", 0, () -> x.comes(20, 0));
            Check.due("comes(20, 1)", 0, () -> x.comes(20, 1));
            Check.due("best(20, 0)", -9, () -> x.best(20, 0));
            Check.due("best(20, 1)", -9, () -> x.best(20, 1));
            Check.due("swap(0, 9, 20)", -1, () -> x.swap(0, 9, 20));
            Check.due("odds(9, 20, 0, 0)", -1, () -> x.odds(9, 20, 0, 0));
            Check.due("odds(9, 20, 0, 1)", -1, () -> x.odds(9, 20, 0, 1));
            Check.due("hears(0, 0, 0)", -1, () -> x.hears(0, 0, 0));
            Check.due("gusts(0)", 0, () -> x.gusts(0));
            Check.due("gusts(1)", -9, () -> x.gusts(1));
            Check.due("listen(20)", -9, () -> x.listen(20));
            Check.due("rate(0, 0)", -1000000, () -> x.rate(0, 0));
        }
    }

    private static RodChimes passed(int beats) {
        RodChimes x = Edges.three();
        for (int i = 0; i < beats; i++) {
            x.calms();
        }
        return x;
    }

    /** No object gets to BEAT 999 within its 512 calls; what lies behind them is looked at all the same. */
    private static void lastBeat() {
        Check.due("as many as 512 calls can bring", 480, passed(480).now(0));
        RodChimes x = passed(998);
        Check.due("the last beat comes", -9, x.calms());
        Check.due("it is 999", 999, x.now(0));
        Check.due("no beat more", -2, x.calms());
        Check.due("nor by a gust", -2, x.blows(0, 1));
        Check.due("the last gust's beat", 2, passed(998).blows(2, 9));
    }

    private static void ringsOut() {
        RodChimes x = Check.chime("r0 1 1;r0 1 2;r0 1 9;");
        x.blows(0, 1);
        Check.due("1 from the start", 1, x.rod(0, 4));
        Check.due("it rings", 1, x.now(3));
        x.calms();
        Check.due("not any more", 0, x.rod(0, 4));
        Check.due("nothing rings", 0, x.now(3));
        x.calms();
        Check.due("not below 0", 0, x.rod(0, 4));
        x.blows(2, 1);
        for (int left = 9; left >= 0; left--) {
            Check.due("rings for", left, x.rod(2, 4));
            Check.due("which ring", left > 0 ? 4 : 0, x.now(3));
            x.calms();
        }
        Check.due("not below 0", 0, x.rod(2, 4));
    }

    private static void strengths() {
        for (int strong = 1; strong <= 9; strong++) {
            RodChimes x = Check.chime(NUMB + NUMB + NUMB);
            x.blows(1, strong);
            clapper("a gust of " + strong, x, 1, Math.min(strong, 8));
        }
        int[] wrong = {Edges.MIN, -9, -1, 0, 10, 99, Edges.MAX};
        for (int w : wrong) {
            Edges.unchanged("blows(0, " + w + ")", -1, Edges::busy, x -> x.blows(0, w));
        }
    }

    /** Five sides: from side 1 it swings over to 3, a gust blows it to 4. */
    private static void asStrongAsFar() {
        for (int far = 1; far <= 8; far++) {
            for (int strong = 1; strong <= 9; strong++) {
                RodChimes x = Check.chime(NUMB.repeat(5));
                x.blows(1, far);
                x.blows(4, strong);
                if (strong >= far) {
                    clapper("a gust of " + strong + " at far " + far, x, 4, Math.min(strong, 8));
                } else {
                    clapper("a gust of " + strong + " at far " + far, x, 3, far - 1);
                }
            }
        }
    }

    private static void swingsInAnyCase() {
        RodChimes x = Check.chime("r0 1 9;".repeat(5));
        x.calms();
        clapper("a calm beat at far 0", x, 2, 0);
        x.calms();
        clapper("and another", x, 4, 0);
        x.blows(0, 5);
        Check.due("a weaker gust swings it over, and it strikes", 2, x.blows(4, 3));
        clapper("a weaker gust", x, 2, 2);
    }

    private static void behindTheLastSide() {
        int[][] courses = {{0, 1, 2, 0}, {0, 2, 0, 2}, {0, 2, 4, 1, 3, 0}, {0, 3, 0, 3}, {0, 3, 6, 2, 5, 1, 4, 0}, {0, 4, 0, 4}};
        for (int rods = 3; rods <= 8; rods++) {
            RodChimes x = Check.chime(NUMB.repeat(rods));
            for (int side : courses[rods - 3]) {
                Check.due("towards", side, x.now(1));
                x.calms();
            }
        }
        RodChimes eight = Check.chime("r0 1 1;".repeat(8));
        eight.blows(7, 9);
        Check.due("from the last of eight", 3, eight.calms());
        eight.blows(4, 9);
        Check.due("to the first of eight", 0, eight.calms());
        RodChimes three = Edges.three();
        three.blows(2, 9);
        Check.due("from the last of three to the first", 0, three.calms());
    }

    private static void farFallsToZero() {
        for (int damp = 1; damp <= 3; damp++) {
            for (int far = 1; far <= 8; far++) {
                RodChimes x = Check.chime("d" + damp + ";" + NUMB.repeat(3));
                x.blows(0, far);
                x.calms();
                Check.due("far " + far + ", damp " + damp, Math.max(far - damp, 0), x.now(2));
            }
            RodChimes still = Check.chime("d" + damp + ";" + NUMB.repeat(3));
            still.calms();
            Check.due("far 0, damp " + damp, 0, still.now(2));
        }
    }

    private static void farAsGap() {
        for (int gap = 1; gap <= 9; gap++) {
            for (int strong = 1; strong <= 9; strong++) {
                RodChimes x = Check.chime("r0 9 1;r0 " + gap + " 1;r0 9 1;");
                Check.due("gap " + gap + ", far " + strong, strong >= gap ? 1 : -9, x.blows(1, strong));
                RodChimes y = Check.chime("d2;r0 9 1;r0 " + gap + " 1;r0 9 1;");
                y.blows(0, strong);
                int far = Math.max(Math.min(strong, 8) - 2, 0);
                Check.due("gap " + gap + ", swung over to far " + far, far >= gap ? 1 : -9, y.calms());
            }
        }
        RodChimes near = Check.chime("r0 1 1;".repeat(3));
        Check.due("not far at all", -9, near.calms());
        near.blows(0, 2);
        Check.due("fallen to far 0", -9, near.calms());
    }

    private static void ringsAnew() {
        for (int ring = 1; ring <= 9; ring++) {
            RodChimes x = Check.chime(("r0 1 " + ring + ";").repeat(3));
            x.blows(0, 1);
            Check.due("from now on", ring, x.rod(0, 4));
            x.blows(0, 1);
            Check.due("struck as it rings: not for longer", ring, x.rod(0, 4));
            x.calms();
            x.blows(0, 1);
            Check.due("and again", ring, x.rod(0, 4));
        }
    }

    private static void oneLessFar() {
        for (int strong = 1; strong <= 9; strong++) {
            RodChimes x = Edges.three();
            x.blows(2, strong);
            clapper("struck at far " + strong, x, 2, strong - 1);
        }
        RodChimes y = Edges.three();
        y.blows(0, 2);
        y.calms();
        clapper("1 by the strike, 1 by the damp", y, 1, 0);
    }

    private static void ringOnChanged() {
        RodChimes x = Edges.busy();
        x.changes(0, 1);
        // behind busy() rod 0 rings for 3 and rod 1 for 5; sides 0 2 1
        int[] rings = {3, 5, 0};
        int[] sides = {2, 0, 1};
        for (int r = 0; r < 3; r++) {
            Check.due("rod " + r + " rings on", rings[r], x.rod(r, 4));
            Check.due("side of rod " + r, sides[r], x.rod(r, 3));
        }
        x.changes(0, 2);
        Check.due("one that rings with one that doesn't", 3, x.now(3));
        RodChimes eight = Check.chime(NUMB.repeat(8));
        eight.changes(7, 0);
        Check.due("the last at the first side", 7, eight.side(0));
        Check.due("the first at the last side", 0, eight.side(7));
        eight.changes(0, 7);
        Check.due("and back", 0, eight.side(0));
    }

    private static void heldStill() {
        RodChimes x = Check.chime("r0 1 1;r1 1 9;r2 1 9;");
        x.blows(1, 1);
        x.blows(2, 1);
        x.blows(0, 1);
        Check.due("all ring", 7, x.now(3));
        x.holds(0);
        Check.due("all but rod 0", 6, x.now(3));
        Check.due("0 beats", 0, x.rod(0, 4));
        x.holds(2);
        Check.due("all but rods 0 and 2", 2, x.now(3));
        x.calms();
        Check.due("a beat later, too", 2, x.now(3));
        x.blows(0, 1);
        Check.due("held is not for ever", 3, x.now(3));
    }

    private static void notRefused() {
        RodChimes x = Edges.three();
        x.blows(0, 9);
        int[] refused = {x.blows(3, 9), x.blows(0, 10), x.changes(2, 2), x.changes(0, 3), x.holds(1), x.holds(3)};
        int[] due = {-1, -1, -1, -1, -2, -1};
        for (int i = 0; i < due.length; i++) {
            Check.due("refused", due[i], refused[i]);
        }
        Check.due("one is known", 1, x.now(6));
        Check.due("it is undone", 0, x.undo());
        Check.due("beat", 0, x.now(0));
        Check.due("nothing rings", 0, x.now(3));
        // each of the four alone
        x.blows(0, 9);
        Check.due("a gust", 0, x.undo());
        x.calms();
        Check.due("a calm beat", 0, x.undo());
        clapper("a calm beat is undone", x, 0, 0);
        x.changes(0, 2);
        Check.due("a change", 0, x.undo());
        Check.due("a change is undone", 0, x.rod(0, 3));
        x.blows(0, 9);
        x.holds(0);
        Check.due("a hold", 1, x.undo());
        Check.due("a hold is undone", 5, x.rod(0, 4));
    }

    private static void tenAreKnown() {
        for (int done = 0; done <= 35; done++) {
            RodChimes x = passed(done);
            int known = Math.min(done, 10);
            Check.due("known of " + done, known, x.now(6));
            for (int left = known - 1; left >= 0; left--) {
                Check.due("undo()", left, x.undo());
            }
            Check.due("older ones are lost", -2, x.undo());
            Check.due("beat", done - known, x.now(0));
        }
        RodChimes x = passed(15);
        for (int i = 0; i < 10; i++) {
            x.undo();
        }
        for (int i = 1; i <= 12; i++) {
            x.blows(0, 1);
            Check.due("known again", Math.min(i, 10), x.now(6));
        }
        for (int i = 0; i < 10; i++) {
            x.undo();
        }
        Check.due("10 ago", 7, x.now(0));
        Check.due("none more", -2, x.undo());
    }

    // ---- the promises

    private static void blowsAnswers() {
        RodChimes x = Check.chime("r0 9 1;r0 1 1;r0 1 1;r0 1 1;r0 1 1;r0 1 1;r0 1 1;r0 9 1;");
        Check.due("the first rod: 0, not NONE", 0, x.blows(0, 9));
        Check.due("the last rod", 7, x.blows(7, 9));
        Check.due("none", -9, x.blows(0, 8));
        Check.due("one on the other side", 4, x.blows(0, 1));
        Check.due("beats", 4, x.now(0));
        x.changes(7, 1);
        Check.due("the rod, not the side", 1, x.blows(7, 9));
    }

    private static void blowsRefused() {
        int[] sides = {Edges.MIN, -1, 3, 8, 32, Edges.MAX};
        for (int s : sides) {
            Edges.unchanged("blows(" + s + ", 5)", -1, Edges::busy, x -> x.blows(s, 5));
            Edges.unchanged("blows(" + s + ", 0)", -1, Edges::brimful, x -> x.blows(s, 0));
        }
        int[] strengths = {Edges.MIN, -1, 0, 10, Edges.MAX};
        for (int s : strengths) {
            Edges.unchanged("blows(2, " + s + ")", -1, Edges::brimful, x -> x.blows(2, s));
        }
        Edges.unchanged("blows(0, 1), without sides", -1, RodChimes::new, x -> x.blows(0, 1));
        Edges.unchanged("blows() at beat 999", -2, () -> passed(999), x -> x.blows(2, 9));
        Edges.unchanged("a wrong side at beat 999", -1, () -> passed(999), x -> x.blows(3, 9));
        Edges.unchanged("a wrong strength at beat 999", -1, () -> passed(999), x -> x.blows(0, 0));
    }

    private static void calmsAnswers() {
        RodChimes x = Edges.three();
        Check.due("none", -9, x.calms());
        Check.due("a beat all the same", 1, x.now(0));
        x.blows(2, 9);
        Check.due("the first rod: 0, not NONE", 0, x.calms());
        Check.due("then the next one", 1, x.calms());
        RodChimes eight = Check.chime("r0 1 1;".repeat(8));
        eight.blows(3, 9);
        Check.due("the last rod", 7, eight.calms());
    }

    private static void calmsRefused() {
        Edges.unchanged("calms() without rods", -2, RodChimes::new, x -> x.calms());
        Edges.unchanged("calms() at beat 999", -2, () -> passed(999), x -> x.calms());
        Edges.unchanged("calms() behind a text with a fault", -2, () -> faulty(), x -> x.calms());
    }

    private static RodChimes faulty() {
        RodChimes x = Edges.typed("r0 1 1;r0 1 1;r0 1 1;;");
        Check.due("a fault", -31, x.chime());
        return x;
    }

    private static void changesAnswers() {
        RodChimes x = Edges.three();
        Check.due("not harsh", 0, x.changes(0, 1));
        Check.due("undone", 0, x.undo());
        x.blows(0, 1);
        x.blows(1, 1);
        x.blows(2, 1);
        Check.due("tones 0 1 7", 2, x.changes(0, 2));
        Check.due("no beat", 3, x.now(0));
        RodChimes eight = Check.chime("r0 1 9;r1 1 9;r2 1 9;r8 1 9;r12 1 9;r13 1 9;r14 1 9;r20 1 9;");
        for (int s = 0; s < 8; s++) {
            eight.blows(s, 1);
        }
        // left over by 12: 0 1 2 8, and these again; harsh are 0 1, 0 2, 1 2, 2 8, each in 4 ways
        Check.due("eight rods", 16, eight.changes(0, 7));
    }

    private static void changesRefused() {
        int[][] wrong = {{0, 0}, {1, 1}, {2, 2}, {3, 3}, {-1, -1}, {-1, 0}, {0, -1}, {3, 2}, {2, 3}, {8, 0}, {0, 8},
            {Edges.MIN, 0}, {0, Edges.MIN}, {Edges.MAX, 2}, {2, Edges.MAX}, {Edges.MAX, Edges.MAX}};
        for (int[] w : wrong) {
            Edges.unchanged("changes(" + w[0] + ", " + w[1] + ")", -1, Edges::busy, x -> x.changes(w[0], w[1]));
        }
        Edges.unchanged("changes(1, 1), with 10 known", -1, Edges::brimful, x -> x.changes(1, 1));
        Edges.unchanged("changes(0, 1) without rods", -1, RodChimes::new, x -> x.changes(0, 1));
        RodChimes last = passed(999);
        Check.due("changes() at beat 999", 0, last.changes(0, 1));
        Check.due("the other way round", 0, last.changes(1, 0));
    }

    private static void holdsAnswers() {
        for (int ring = 1; ring <= 9; ring++) {
            RodChimes x = Check.chime(("r0 1 " + ring + ";").repeat(3));
            x.blows(2, 1);
            Check.due("rung from now on", ring, x.holds(2));
            x.undo();
            for (int left = ring - 1; left >= 1; left--) {
                x.calms();
                Check.due("rung", left, x.holds(2));
                x.undo();
            }
            x.calms();
            Check.due("rung out", -2, x.holds(2));
        }
        RodChimes last = passed(998);
        last.blows(1, 1);
        Check.due("holds() at beat 999", 5, last.holds(1));
    }

    private static void holdsRefused() {
        int[] wrong = {Edges.MIN, -1, 3, 8, 32, Edges.MAX};
        for (int w : wrong) {
            Edges.unchanged("holds(" + w + ")", -1, Edges::busy, x -> x.holds(w));
            Edges.unchanged("holds(" + w + ") where nothing rings", -1, Edges::three, x -> x.holds(w));
        }
        Edges.unchanged("holds(0) without rods", -1, RodChimes::new, x -> x.holds(0));
        Edges.unchanged("holds(2), as others ring", -2, Edges::busy, x -> x.holds(2));
        Edges.unchanged("holds(2), with 10 known", -2, Edges::brimful, x -> x.holds(2));
        Edges.unchanged("holds(0), held already", -2, () -> held(), x -> x.holds(0));
    }

    private static RodChimes held() {
        RodChimes x = Edges.busy();
        Check.due("held", 3, x.holds(0));
        return x;
    }

    private static void undoAnswers() {
        RodChimes x = Edges.brimful();
        for (int left = 9; left >= 0; left--) {
            Check.due("undo()", left, x.undo());
        }
        Check.due("undo() again", -2, x.undo());
        Check.due("what is heard stays", 6, x.count(2));
        Check.due("the text stays", 120, x.count(3));
        RodChimes last = passed(999);
        Check.due("undo() at beat 999", 9, last.undo());
        Check.due("a beat may be again", -9, last.calms());
    }

    private static void undoRefused() {
        Edges.unchanged("undo() of a new object", -2, RodChimes::new, x -> x.undo());
        Edges.unchanged("undo() of nothing", -2, Edges::three, x -> x.undo());
        Edges.unchanged("undo() when all is undone", -2, () -> allUndone(), x -> x.undo());
        Edges.unchanged("undo() behind back()", -2, () -> broughtBack(), x -> x.undo());
        RodChimes anew = Edges.busy();
        anew.chime();
        Check.due("undo() behind a text that was read", -2, anew.undo());
    }

    private static RodChimes allUndone() {
        RodChimes x = Edges.busy();
        for (int i = 0; i < 6; i++) {
            x.undo();
        }
        return x;
    }

    private static RodChimes broughtBack() {
        RodChimes x = Edges.brimful();
        x.back(0);
        return x;
    }
}
