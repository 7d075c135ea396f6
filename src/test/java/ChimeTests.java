/** Promises 1 to 7 and 24: a new object, the text, rods, sides, what is now. */
public final class ChimeTests {
    private static final String THREE = "r0 1 5;r1 1 5;r7 1 5;";

    public static void main(String[] args) {
        newObject();
        letters();
        faults();
        rightTexts();
        readAnew();
        faultChangesNothing();
        rodsAndSides();
        present();
        counts();
        Check.end("ChimeTests");
    }

    private static void newObject() {
        RodChimes x = new RodChimes();
        for (int what = 0; what <= 6; what++) {
            int w = what;
            Check.due("new: now(" + w + ")", 0, () -> x.now(w));
        }
        Check.due("new: rods", 0, x.count(0));
        Check.due("new: damp", 1, x.count(1));
        Check.due("new: heard", 0, x.count(2));
        Check.due("new: letters", 0, x.count(3));
        Check.due("new: rod(0, 0)", -1, () -> x.rod(0, 0));
        Check.due("new: side(0)", -1, () -> x.side(0));
        Check.due("new: blows(0, 1)", -1, () -> x.blows(0, 1));
        Check.due("new: calms()", -2, () -> x.calms());
        Check.due("new: changes(0, 1)", -1, () -> x.changes(0, 1));
        Check.due("new: holds(0)", -1, () -> x.holds(0));
        Check.due("new: undo()", -2, () -> x.undo());
        Check.due("new: comes(20, 0)", 0, () -> x.comes(20, 0));
        Check.due("new: comes(20, 1)", 0, () -> x.comes(20, 1));
        Check.due("new: best(20, 0)", -9, () -> x.best(20, 0));
        Check.due("new: best(20, 1)", -9, () -> x.best(20, 1));
        Check.due("new: swap(0, 1, 0)", -1, () -> x.swap(0, 1, 0));
        Check.due("new: odds(1, 0, 0, 1)", -1, () -> x.odds(1, 0, 0, 1));
        Check.due("new: hears(0, 0, 0)", -1, () -> x.hears(0, 0, 0));
        Check.due("new: forget()", 0, () -> x.forget());
        Check.due("new: gusts(0)", 0, () -> x.gusts(0));
        Check.due("new: gusts(1)", -9, () -> x.gusts(1));
        Check.due("new: listen(0)", -9, () -> x.listen(0));
        Check.due("new: rate(0, 0)", -1000000, () -> x.rate(0, 0));
        Check.due("new: back(0)", -2, () -> x.back(0));
        Check.due("new: keep(0)", 0, () -> x.keep(0));
        Check.due("new: back(0) once kept", 0, () -> x.back(0));
        Check.due("new: trace()", 0, () -> x.trace());
        Check.due("new: clear()", 0, () -> x.clear());
        Check.due("new: chime()", -10, () -> x.chime());
    }

    private static void letters() {
        RodChimes x = new RodChimes();
        Check.due("type(-1)", -1, () -> x.type(-1));
        Check.due("type(256)", -1, () -> x.type(256));
        Check.due("type(0)", 1, () -> x.type(0));
        Check.due("type(255)", 2, () -> x.type(255));
        for (int i = 3; i <= 120; i++) {
            Check.due("letter " + i, i, x.type(' '));
        }
        Check.due("letter 121", -3, () -> x.type('r'));
        Check.due("a wrong letter in a full text", -1, () -> x.type(256));
        Check.due("letters of a full text", 120, x.count(3));
        Check.due("clear() of a full text", 120, x.clear());
        Check.due("letters behind clear()", 0, x.count(3));
        Check.due("clear() again", 0, x.clear());
        Check.due("type() behind clear()", 1, x.type('r'));
    }

    private static void fault(String text, int place) {
        RodChimes x = new RodChimes();
        Check.type(x, text);
        Check.due("chime() of '" + text + "'", -10 - place, () -> x.chime());
        Check.due("text kept: '" + text + "'", text.length(), x.count(3));
        Check.due("no rods: '" + text + "'", 0, x.count(0));
    }

    private static void faults() {
        fault("", 0);
        fault("   ", 3);
        fault(";", 0);
        fault("5", 0);
        fault("x", 0);
        fault("  R0 1 1;", 2);
        fault("r", 1);
        fault("r ", 2);
        fault("r;", 1);
        fault("rr", 1);
        fault("r d", 2);
        fault("r49 1 1;", 1);
        fault("r48 1 1;", 8);
        fault("r100 1 1;", 1);
        fault("r 007 1 1;", 2);
        fault("r00 1 1;", 1);
        fault("r0 0 1;", 3);
        fault("r0 10 1;", 3);
        fault("r0 01 1;", 3);
        fault("r0 1 0;", 5);
        fault("r0 1 10;", 5);
        fault("r0 1;", 4);
        fault("r0 1 1", 6);
        fault("r0 1 1  ", 8);
        fault("r0 1 1 1;", 7);
        fault("r0 1 1;;", 7);
        fault("r0 1 1x;", 6);
        fault("r0\t1 1;", 2);
        fault("r-1 1 1;", 1);
        fault("d", 1);
        fault("d;", 1);
        fault("d0;", 1);
        fault("d4;", 1);
        fault("d01;", 1);
        fault("d1 1;", 3);
        fault("d1", 2);
        fault("d1;d1;", 3);
        fault("d1;  d", 5);
        fault("d1;", 3);
        fault("r0 1 1;r0 1 1;", 14);
        fault("r0 1 1;r0 1 1;d2; ", 18);
        fault("r0 1 1;r0 1 1;r0 1 1", 20);
        fault("r0 1 1;".repeat(8) + " r0 1 1;", 57);
        fault("r0 1 1;".repeat(8) + "d2;d3;", 59);
        fault("r0 1 1;".repeat(3) + (char) 255, 21);
        fault("r0 1 1;".repeat(3) + (char) 0, 21);
    }

    private static void right(String text, int items, int rods, int damp) {
        RodChimes x = new RodChimes();
        Check.type(x, text);
        Check.due("chime() of '" + text + "'", items, () -> x.chime());
        Check.due("rods of '" + text + "'", rods, x.count(0));
        Check.due("damp of '" + text + "'", damp, x.count(1));
        Check.due("text is empty behind '" + text + "'", 0, x.count(3));
    }

    private static void rightTexts() {
        right(THREE, 3, 3, 1);
        right("d2;" + THREE, 4, 3, 2);
        right(THREE + "d3;", 4, 3, 3);
        right("r0 1 1;d1;r0 1 1;r48 9 9;", 4, 3, 1);
        right("  r  0   1  1  ;  d  3  ;  r10 2 3;r 9 8 7 ;  ", 4, 3, 3);
        right("r0 1 1;".repeat(8), 8, 8, 1);
        right("r0 1 1;".repeat(8) + "d2;", 9, 8, 2);
        right("r48 1 1;".repeat(8) + "d2;" + " ".repeat(53), 9, 8, 2);
    }

    private static void readAnew() {
        RodChimes x = Check.chime("d3;" + THREE);
        x.blows(1, 9);
        x.changes(0, 2);
        x.hears(0, 0, 1);
        x.keep(0);
        x.keep(1);
        x.rate(0, 0);
        Check.type(x, "r10 2 3;r20 3 4;r30 4 5;r40 5 6;");
        Check.due("read anew", 4, x.chime());
        Check.due("read anew: rods", 4, x.count(0));
        Check.due("read anew: damp", 1, x.count(1));
        Check.due("read anew: heard", 0, x.count(2));
        for (int what = 0; what <= 6; what++) {
            Check.due("read anew: now(" + what + ")", 0, x.now(what));
        }
        for (int r = 0; r < 4; r++) {
            Check.due("read anew: side of " + r, r, x.rod(r, 3));
            Check.due("read anew: ringing of " + r, 0, x.rod(r, 4));
        }
        Check.due("read anew: undo()", -2, x.undo());
        Check.due("read anew: back(0)", -2, x.back(0));
        Check.due("read anew: back(1)", -2, x.back(1));
        Check.due("read anew: the trace goes on", 1, x.trace());
        Check.type(x, THREE);
        Check.due("fewer rods", 3, x.chime());
        Check.due("fewer rods: rod(3, 0)", -1, x.rod(3, 0));
        Check.due("fewer rods: side(3)", -1, x.side(3));
    }

    private static void faultChangesNothing() {
        RodChimes x = Check.chime("d2;" + THREE);
        x.blows(1, 9);
        x.hears(0, 0, 1);
        x.keep(0);
        x.calms();
        Check.type(x, "d3;r9 9 9;r9 9 9;");
        Check.due("a fault", -27, x.chime());
        Check.due("fault: letters", 17, x.count(3));
        Check.due("fault: rods", 3, x.count(0));
        Check.due("fault: damp", 2, x.count(1));
        Check.due("fault: heard", 1, x.count(2));
        Check.due("fault: tone", 0, x.rod(0, 0));
        Check.due("fault: gap", 1, x.rod(0, 1));
        Check.due("fault: ring", 5, x.rod(0, 2));
        Check.due("fault: beat", 2, x.now(0));
        Check.due("fault: undone", 2, x.now(6));
        Check.due("fault: undo()", 1, x.undo());
        Check.due("fault: back(0)", 1, x.back(0));
        Check.type(x, "r8 8 8;");
        Check.due("the text goes on", 4, x.chime());
        Check.due("the text went on", 3, x.count(1));
    }

    private static void rodsAndSides() {
        RodChimes x = Check.chime("r0 1 2;r12 3 4;r48 9 8;r7 6 5;");
        int[][] told = {{0, 1, 2}, {12, 3, 4}, {48, 9, 8}, {7, 6, 5}};
        for (int r = 0; r < 4; r++) {
            for (int what = 0; what < 3; what++) {
                Check.due("rod(" + r + ", " + what + ")", told[r][what], x.rod(r, what));
            }
            Check.due("side of rod " + r, r, x.rod(r, 3));
            Check.due("ringing of rod " + r, 0, x.rod(r, 4));
            Check.due("side(" + r + ")", r, x.side(r));
        }
        x.changes(0, 3);
        x.changes(3, 1);
        // rod 0 went to side 3, rod 3 to 0; then rod 3 to 1, rod 1 to 0
        int[] sides = {3, 0, 2, 1};
        for (int r = 0; r < 4; r++) {
            Check.due("changed: side of rod " + r, sides[r], x.rod(r, 3));
            Check.due("changed: rod at it", r, x.side(sides[r]));
            Check.due("changed: tone stays", told[r][0], x.rod(r, 0));
        }
        x.blows(3, 9);
        Check.due("struck at its new side", 2, x.rod(0, 4));
        int[] wrong = {-1, 4, 8, Integer.MIN_VALUE, Integer.MAX_VALUE};
        for (int w : wrong) {
            Check.due("rod(" + w + ", 0)", -1, () -> x.rod(w, 0));
            Check.due("side(" + w + ")", -1, () -> x.side(w));
        }
        Check.due("rod(0, -1)", -1, () -> x.rod(0, -1));
        Check.due("rod(0, 5)", -1, () -> x.rod(0, 5));
    }

    private static void presentIs(RodChimes x, int... due) {
        for (int what = 0; what < due.length; what++) {
            Check.due("beat " + due[0] + ": now(" + what + ")", due[what], x.now(what));
        }
    }

    private static void present() {
        RodChimes x = Check.chime(THREE);
        presentIs(x, 0, 0, 0, 0, 0, 0, 0);
        x.blows(0, 5);
        presentIs(x, 1, 0, 4, 1, 0, 7, 1);
        x.calms();
        presentIs(x, 2, 1, 2, 3, 1, 6, 2);
        x.calms();
        presentIs(x, 3, 2, 0, 7, 2, 5, 3);
        x.calms();
        presentIs(x, 4, 0, 0, 7, 2, 4, 4);
        x.calms();
        presentIs(x, 5, 1, 0, 7, 2, 3, 5);
        x.calms();
        presentIs(x, 6, 2, 0, 6, 1, 2, 6);
        Check.due("now(7)", -1, () -> x.now(7));
        Check.due("now(-1)", -1, () -> x.now(-1));
        harshTones();
        harshToTheLastBeat();
        farKeepsFromStill();
        eightRods();
    }

    /** Rods 0 and 1 ring together, at every distance of tones. */
    private static void harshTones() {
        for (int apart = 0; apart <= 48; apart++) {
            int left = apart % 12;
            int harsh = left == 1 || left == 2 || left == 6 || left == 10 || left == 11 ? 1 : 0;
            for (int first = 0; first <= 1; first++) {
                for (int low = 0; low + apart <= 48; low += 7) {
                    int tone = low + apart * first;
                    int other = low + apart * (1 - first);
                    RodChimes x = Check.chime("r" + tone + " 1 9;r" + other + " 1 9;r0 9 1;");
                    x.blows(0, 1);
                    x.blows(1, 1);
                    Check.due("harsh: " + tone + " and " + other, harsh, x.now(4));
                }
            }
        }
    }

    private static void harshToTheLastBeat() {
        RodChimes x = Check.chime("r0 1 2;r1 1 1;r0 9 1;");
        x.blows(0, 1);
        x.blows(1, 1);
        Check.due("both ring for one beat more", 1, x.rod(0, 4) * x.rod(1, 4));
        Check.due("harsh in it", 1, x.now(4));
        x.calms();
        Check.due("behind it no more", 0, x.now(4));
    }

    private static void farKeepsFromStill() {
        RodChimes x = Check.chime("d2;r0 9 1;r0 9 1;r0 9 1;");
        x.blows(2, 7);
        Check.due("nothing rings", 0, x.now(3));
        Check.due("still once far is 0", 4, x.now(5));
    }

    private static void eightRods() {
        RodChimes x = Check.chime("r0 1 9;".repeat(7) + "r1 1 9;");
        for (int side = 0; side < 8; side++) {
            Check.due("struck", side, x.blows(side, 1));
            Check.due("ringing", (2 << side) - 1, x.now(3));
        }
        Check.due("the last one with each of the others", 7, x.now(4));
        Check.due("till the last one is still", 9, x.now(5));
    }

    private static void counts() {
        RodChimes x = Check.chime("d2;" + THREE);
        x.hears(0, 0, 0);
        x.hears(0, 0, 0);
        Check.type(x, "r 1");
        Check.due("count(0)", 3, x.count(0));
        Check.due("count(1)", 2, x.count(1));
        Check.due("count(2)", 2, x.count(2));
        Check.due("count(3)", 3, x.count(3));
        Check.due("count(-1)", -1, () -> x.count(-1));
        Check.due("count(4)", -1, () -> x.count(4));
    }
}
