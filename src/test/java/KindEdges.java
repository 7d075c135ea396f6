/** The edges of part 4 of the terms, and of promises 21 to 23 and 25: kinds, the trace, images, refusals. */
final class KindEdges {
    private KindEdges() {
    }

    static void tell(Edges e) {
        e.term("0 CHIME; 1 GLASS, 2 SHELL, 5 BRASS (each under CHIME); 3 BELL (under GLASS); 4 BONE (under SHELL)",
            KindEdges::kindsAreOver);
        e.term("added to THE TRACE, 0 at first, as often as rate() asks that body: each once", KindEdges::eachOnce);
        e.term("SHELL up less how FAR the CLAPPER is (100). BELL twice up (1000).", KindEdges::leastAndGreatest);
        e.term("BRASS up, and the BEAT (100000).", KindEdges::latestBeat);
        e.term("IMAGES 0, 1 keep NOW (the BEAT, the CLAPPER, SIDES of RODS, what rings); nothing else",
            KindEdges::nothingElse);
        e.term("(nothing can be UNDONE behind back())", KindEdges::nothingUndone);
        e.term("(Read anew: as told, BEAT 0, nothing HEARD, IMAGES are gone.)", KindEdges::readAnew);
        e.term("Refused, and nothing changes, the first of these: BAD (a number is not as told, or there is no such thing),"
            + " STATE (as told), FULL.", KindEdges::theFirstRefusal);
        e.term("`NO = -1000000`: What is BAD, where a number may be below 0.", KindEdges::belowZero);
        e.term("An object is used for at most 512 calls after it has been made", KindEdges::lastCall);
        promises(e);
    }

    private static void promises(Edges e) {
        e.promise(21, "NO: BAD.", KindEdges::rateRefused);
        e.promise(22, "An IMAGE is kept: the BEAT.", KindEdges::keeps);
        e.promise(22, "BAD.", KindEdges::keepRefused);
        e.promise(23, "All of that becomes as an IMAGE has it: the BEAT.", KindEdges::bringsBack);
        e.promise(23, "BAD; STATE: none was kept.", KindEdges::backRefused);
        e.promise(25, "THE TRACE.", KindEdges::traces);
    }

    // ---- the terms

    private static final int[] TRACES = {1, 11, 101, 1011, 10101, 100001};

    private static void kindsAreOver() {
        for (int kind = 0; kind <= 5; kind++) {
            RodChimes x = Edges.three();
            x.rate(kind, 0);
            Check.due("trace of kind " + kind, TRACES[kind], x.trace());
        }
    }

    private static void eachOnce() {
        RodChimes x = Edges.three();
        Check.due("at first", 0, x.trace());
        long due = 0;
        for (int i = 0; i < 60; i++) {
            x.rate(i % 6, i % 3);
            due += TRACES[i % 6];
            Check.due("as often as asked", due, x.trace());
        }
    }

    private static void leastAndGreatest() {
        RodChimes x = Check.chime("r0 9 9;r48 1 9;r0 9 9;");
        x.blows(1, 9);
        // rod 1 rings for 9, far is 8
        int[] ofRod0 = {0, 0, -8, 0, -8, 1};
        int[] ofRod1 = {48, 57, 40, 114, 41, 49};
        for (int kind = 0; kind <= 5; kind++) {
            Check.due("least, kind " + kind, ofRod0[kind], x.rate(kind, 0));
            Check.due("greatest, kind " + kind, ofRod1[kind], x.rate(kind, 1));
        }
        Check.due("with its number", -6, x.rate(4, 2));
        RodChimes eight = Check.chime("r48 1 1;".repeat(8));
        Check.due("with the last number", 55, eight.rate(4, 7));
    }

    private static void latestBeat() {
        RodChimes x = Check.chime("r48 1 1;r0 1 1;r0 1 1;");
        Check.due("beat 0", 48, x.rate(5, 0));
        for (int i = 0; i < 450; i++) {
            x.calms();
        }
        Check.due("beat 450", 498, x.rate(5, 0));
        Check.due("beat 450", 450, x.rate(5, 2));
    }

    private static void nothingElse() {
        RodChimes x = Edges.busy();
        x.keep(0);
        x.hears(0, 0, 0);
        x.type(' ');
        x.rate(0, 0);
        x.back(0);
        Check.due("what is heard is not kept", 3, x.count(2));
        Check.due("the text is not kept", 22, x.count(3));
        Check.due("the trace is not kept", 1012, x.trace());
        Check.due("the other image is not kept", 1, x.back(1));
        RodChimes y = Edges.busy();
        y.keep(0);
        y.forget();
        y.clear();
        y.back(0);
        Check.due("what is forgotten stays so", 0, y.count(2));
        Check.due("the text stays empty", 0, y.count(3));
    }

    private static void nothingUndone() {
        RodChimes x = Edges.brimful();
        Check.due("as many as can be", 10, x.now(6));
        x.back(0);
        Check.due("none", 0, x.now(6));
        Check.due("none", -2, x.undo());
        for (int i = 1; i <= 11; i++) {
            x.changes(0, 1);
            Check.due("what comes behind it can be", Math.min(i, 10), x.now(6));
        }
        RodChimes y = Edges.three();
        y.calms();
        y.keep(0);
        Check.due("keep() leaves it", 1, y.now(6));
        y.back(0);
        Check.due("behind back(), though all is as it was", -2, y.undo());
    }

    private static void readAnew() {
        RodChimes x = Edges.brimful();
        x.rate(0, 0);
        Check.due("read", 4, x.chime());
        Check.due("beat", 0, x.now(0));
        Check.due("towards", 0, x.now(1));
        Check.due("far", 0, x.now(2));
        Check.due("rings", 0, x.now(3));
        Check.due("undone", 0, x.now(6));
        Check.due("heard", 0, x.count(2));
        Check.due("damp", 2, x.count(1));
        for (int r = 0; r < 3; r++) {
            Check.due("side", r, x.rod(r, 3));
        }
        Check.due("image 0", -2, x.back(0));
        Check.due("image 1", -2, x.back(1));
        Check.due("first heard", 1, x.hears(0, 0, 0));
        Check.due("the trace goes on", 1012, x.trace());
        RodChimes y = new RodChimes();
        y.keep(0);
        Check.type(y, Edges.THREE);
        y.chime();
        Check.due("an image without rods is gone, too", -2, y.back(0));
        // from eight rods to three, and from three to eight
        RodChimes z = Check.chime("r9 1 9;".repeat(8));
        z.blows(7, 9);
        z.hears(7, 0, 1);
        Check.type(z, Edges.THREE);
        z.chime();
        Check.due("towards", 0, z.now(1));
        Check.due("rings", 0, z.now(3));
        Check.due("the eighth is gone", -1, z.rod(7, 0));
        Check.type(z, "r8 1 1;".repeat(8));
        z.chime();
        Check.due("the eighth is a new one", 8, z.rod(7, 0));
        Check.due("that doesn't ring", 0, z.rod(7, 4));
    }

    /** Where two of them would fit, in every call that names two. */
    private static void theFirstRefusal() {
        Edges.unchanged("type: BAD ahead of FULL", -1, Edges::brimful, x -> x.type(256));
        Edges.unchanged("hears: BAD ahead of FULL", -1, Edges::brimful, x -> x.hears(0, 0, 2));
        Edges.unchanged("holds: BAD ahead of STATE", -1, Edges::three, x -> x.holds(3));
        Edges.unchanged("back: BAD ahead of STATE", -1, Edges::three, x -> x.back(2));
        RodChimes last = Edges.three();
        for (int i = 0; i < 999; i++) {
            last.calms();
        }
        Check.due("blows: BAD ahead of STATE", -1, last.blows(0, 10));
        Check.due("blows: STATE", -2, last.blows(0, 9));
    }

    private static void belowZero() {
        Check.due("NO", -1000000, RodChimes.NO);
        RodChimes x = Check.chime("r0 9 9;r7 9 9;r8 9 9;");
        x.blows(1, 9);
        Check.due("a rate of -8", -8, x.rate(2, 0));
        Check.due("a rate of -1 is not BAD", -1, x.rate(2, 1));
        Check.due("a rate of 0", 0, x.rate(2, 2));
        x.calms();
        x.calms();
        x.calms();
        Check.due("far", 5, x.now(2));
        Check.due("a rate", -5, x.rate(2, 0));
    }

    private static void lastCall() {
        RodChimes x = Edges.three();
        // 22 calls so far
        x.blows(0, 9);
        x.keep(0);
        for (int i = 0; i < 480; i++) {
            Check.due("a call of many", -1, x.type(-1));
        }
        Check.due("call 505", 0, x.changes(0, 1));
        Check.due("call 506", 1, x.undo());
        Check.due("call 507", 1, x.calms());
        Check.due("call 508", 1, x.hears(2, 20, 1));
        Check.due("call 509", 1, x.back(0));
        Check.due("call 510", 8, x.now(2));
        Check.due("call 511", 0, x.rate(0, 0));
        Check.due("call 512", 1, x.trace());
    }

    // ---- the promises

    private static void rateRefused() {
        int[] wrongKind = {Edges.MIN, -1, 6, 32, Edges.MAX};
        for (int w : wrongKind) {
            Edges.unchanged("rate(" + w + ", 0)", -1000000, Edges::busy, x -> x.rate(w, 0));
        }
        int[] wrongRod = {Edges.MIN, -1, 3, 8, 32, Edges.MAX};
        for (int w : wrongRod) {
            for (int kind = -1; kind <= 6; kind++) {
                int k = kind;
                Edges.unchanged("rate(" + k + ", " + w + ")", -1000000, Edges::busy, x -> x.rate(k, w));
            }
        }
        for (int kind = 0; kind <= 5; kind++) {
            int k = kind;
            Edges.unchanged("rate(" + k + ", 0), without rods", -1000000, RodChimes::new, x -> x.rate(k, 0));
        }
    }

    private static void keeps() {
        RodChimes none = new RodChimes();
        Check.due("without rods", 0, none.keep(0));
        Check.due("without rods", 0, none.keep(1));
        Check.due("and back", 0, none.back(1));
        RodChimes x = Edges.three();
        Check.due("beat 0", 0, x.keep(0));
        x.calms();
        Check.due("beat 1", 1, x.keep(1));
        x.calms();
        Check.due("kept over the other one", 2, x.keep(0));
        Check.due("back(1)", 1, x.back(1));
        Check.due("back(0)", 2, x.back(0));
        // what comes behind keep() does not get into the image
        x.keep(0);
        x.blows(0, 9);
        x.changes(1, 2);
        x.back(0);
        Check.due("rings", 0, x.now(3));
        Check.due("side", 1, x.rod(1, 3));
    }

    private static void keepRefused() {
        int[] wrong = {Edges.MIN, -1, 2, 32, Edges.MAX};
        for (int w : wrong) {
            Edges.unchanged("keep(" + w + ")", -1, Edges::busy, x -> x.keep(w));
            Edges.unchanged("keep(" + w + "), without rods", -1, RodChimes::new, x -> x.keep(w));
        }
    }

    private static void bringsBack() {
        RodChimes x = Edges.busy();
        x.keep(0);
        String was = moment(x);
        for (int round = 0; round < 3; round++) {
            x.blows(1, 9);
            x.changes(0, 2);
            x.holds(0);
            x.calms();
            Check.holds("something changed", !was.equals(moment(x)));
            Check.due("the beat", 4, x.back(0));
            Check.holds("as it was: " + was + " is " + moment(x), was.equals(moment(x)));
        }
        Check.due("back() twice", 4, x.back(0));
        Check.due("to the other one, further back", 1, x.back(1));
        Check.due("and on again", 4, x.back(0));
        Check.holds("as it was", was.equals(moment(x)));
    }

    private static String moment(RodChimes x) {
        StringBuilder out = new StringBuilder();
        for (int what = 0; what <= 5; what++) {
            out.append(x.now(what)).append(' ');
        }
        for (int r = 0; r < 3; r++) {
            out.append(x.rod(r, 3)).append('/').append(x.rod(r, 4)).append(' ');
        }
        return out.toString();
    }

    private static void backRefused() {
        int[] wrong = {Edges.MIN, -1, 2, 32, Edges.MAX};
        for (int w : wrong) {
            Edges.unchanged("back(" + w + ")", -1, Edges::brimful, x -> x.back(w));
            Edges.unchanged("back(" + w + "), none kept", -1, RodChimes::new, x -> x.back(w));
        }
        Edges.unchanged("back(0), none kept", -2, RodChimes::new, x -> x.back(0));
        Edges.unchanged("back(1), none kept", -2, Edges::three, x -> x.back(1));
        Edges.unchanged("back(0), the other one kept", -2, Edges::busy, x -> x.back(0));
    }

    private static void traces() {
        Edges.unchanged("trace() of a new object", 0, RodChimes::new, x -> x.trace());
        Edges.unchanged("trace()", 1011, Edges::busy, x -> x.trace());
        RodChimes x = Edges.three();
        for (int i = 1; i <= 480; i++) {
            x.rate(5, 0);
        }
        Check.due("as great as 512 calls can bring", 48000480L, x.trace());
    }
}
