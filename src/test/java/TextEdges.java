/** The edges of part 1 of the terms, and of promises 1 to 7 and 24: the text, the chime, what is now. */
final class TextEdges {
    private static final String ROD = "r0 1 1;";

    private TextEdges() {
    }

    static void tell(Edges e) {
        e.term("(8 at most; a chime of fewer than 3 is none)", TextEdges::howManyRods);
        e.term("TONE (0 .. 48)", TextEdges::tones);
        e.term("GAP (1 .. 9)", TextEdges::gaps);
        e.term("RING (1 .. 9)", TextEdges::ringTimes);
        e.term("ROD i hangs at SIDE i at first", TextEdges::sidesAtFirst);
        e.term("SIDES are as many as RODS", TextEdges::howManySides);
        e.term("DAMP (1 .. 3; 1 at first)", TextEdges::damps);
        e.term("a text (120 letters at most)", TextEdges::longestText);
        e.term("blanks (32) between TOKENS", TextEdges::blanks);
        e.term("ITEMS, each ended by ;", TextEdges::itemEnds);
        e.term("d N (DAMP; once at most)", TextEdges::dampOnce);
        e.term("the place of the first letter of the first TOKEN that can't stand there", TextEdges::firstFault);
        e.term("(a ninth r, d again, a NUMBER beyond what it may be, too)", TextEdges::faultsOfTheSecondLook);
        e.term("of any other letter", TextEdges::otherLetters);
        e.term("a NUMBER above 99 or with a 0 ahead of others, that TOKEN's", TextEdges::noNumbers);
        e.term("the text's length, if it ends too early", TextEdges::endsTooEarly);
        e.term("if, all else being right, there are fewer than 3 RODS", TextEdges::tooFewRods);
        promisesOfTheText(e);
        promisesOfTheChime(e);
    }

    private static void promisesOfTheText(Edges e) {
        e.promise(1, "As told; no RODS.", TextEdges::newObject);
        e.promise(2, "A letter (0 .. 255) comes to THE TEXT: how many it has.", TextEdges::typesLetters);
        e.promise(2, "BAD; FULL.", TextEdges::refusesLetters);
        e.promise(3, "THE TEXT is empty: how many letters it had.", TextEdges::clears);
        e.promise(4, "THE TEXT tells all anew, and is empty then: how many ITEMS.", TextEdges::reads);
        e.promise(4, "-10 less FAULT: nothing changes.", TextEdges::doesNotRead);
    }

    private static void promisesOfTheChime(Edges e) {
        e.promise(5, "0 TONE, 1 GAP, 2 RING, 3 SIDE, 4 for how many BEATS it rings. BAD.", TextEdges::rodIsBad);
        e.promise(6, "The ROD at a SIDE. BAD.", TextEdges::sideIsBad);
        e.promise(7, "5 STILL (NONE)", TextEdges::longestTillStill);
        e.promise(7, "6 how many may be UNDONE. BAD.", TextEdges::nowIsBad);
        e.promise(24, "0 RODS, 1 DAMP, 2 HEARD, 3 letters of THE TEXT. BAD.", TextEdges::counts);
    }

    private static void answers(String text, int want) {
        RodChimes x = Edges.typed(text);
        Check.due("chime() of '" + text + "'", want, () -> x.chime());
    }

    private static void fault(String text, int place) {
        answers(text, -10 - place);
    }

    // ---- the terms

    private static void howManyRods() {
        for (int rods = 0; rods <= 2; rods++) {
            fault(ROD.repeat(rods), 7 * rods);
        }
        for (int rods = 3; rods <= 8; rods++) {
            answers(ROD.repeat(rods), rods);
            Check.due("rods", rods, Check.chime(ROD.repeat(rods)).count(0));
        }
        fault(ROD.repeat(9), 56);
        fault(ROD.repeat(8) + "r", 56);
    }

    /** The number at a place of the first, and of the last of three rods. */
    private static void numberOfRod(String numbers, int place, int what, int number, boolean fits) {
        String item = "r" + numbers + ";";
        if (!fits) {
            fault(item + ROD + ROD, place);
            fault(ROD + ROD + item, 14 + place);
            return;
        }
        Check.due(item + " as the first", number, Check.chime(item + ROD + ROD).rod(0, what));
        Check.due(item + " as the last", number, Check.chime(ROD + ROD + item).rod(2, what));
    }

    private static void tones() {
        for (int tone = 0; tone <= 99; tone++) {
            numberOfRod(tone + " 1 1", 1, 0, tone, tone <= 48);
        }
        numberOfRod("-1 1 1", 1, 0, -1, false);
    }

    private static void gaps() {
        for (int gap = 0; gap <= 99; gap++) {
            numberOfRod("0 " + gap + " 1", 3, 1, gap, gap >= 1 && gap <= 9);
        }
    }

    private static void ringTimes() {
        for (int ring = 0; ring <= 99; ring++) {
            numberOfRod("0 1 " + ring, 5, 2, ring, ring >= 1 && ring <= 9);
        }
    }

    private static void sidesAtFirst() {
        for (int rods = 3; rods <= 8; rods++) {
            RodChimes x = Check.chime(ROD.repeat(rods));
            for (int i = 0; i < rods; i++) {
                Check.due("side of rod " + i, i, x.rod(i, 3));
                Check.due("rod at side " + i, i, x.side(i));
            }
        }
    }

    private static void howManySides() {
        for (int rods = 3; rods <= 8; rods++) {
            int sides = rods;
            RodChimes x = Check.chime(ROD.repeat(rods));
            Check.due("blown to the last side", rods - 1, x.blows(rods - 1, 1));
            Check.due("blown behind it", -1, () -> x.blows(sides, 1));
            Check.due("rod behind it", -1, () -> x.side(sides));
            Check.due("gusts", 9 * rods, x.gusts(0));
        }
    }

    private static void damps() {
        Check.due("of a new object", 1, new RodChimes().count(1));
        Check.due("not told", 1, Edges.three().count(1));
        for (int damp = 0; damp <= 99; damp++) {
            if (damp >= 1 && damp <= 3) {
                Check.due("told", damp, Check.chime("d" + damp + ";" + Edges.THREE).count(1));
            } else {
                fault("d" + damp + ";" + Edges.THREE, 1);
            }
        }
        RodChimes x = Check.chime("d3;" + Edges.THREE);
        Check.type(x, Edges.THREE);
        x.chime();
        Check.due("not told the second time", 1, x.count(1));
    }

    private static void longestText() {
        RodChimes x = Edges.typed(Edges.THREE + "d2" + " ".repeat(96));
        Check.due("letters", 119, x.count(3));
        Check.due("the last letter that has a place", 120, x.type(';'));
        Check.due("one too many", -3, x.type('x'));
        Check.due("the last letter counts, the one too many doesn't", 4, x.chime());
        RodChimes y = Edges.typed("r0 1 1;".repeat(8) + " ".repeat(63) + "dd");
        Check.due("the fault at the last letter; a second d has no place", -10 - 120, y.chime());
        RodChimes z = Edges.typed(Edges.THREE + " ".repeat(98) + "xx");
        Check.due("the last place", -10 - 119, z.chime());
        fault(Edges.THREE + "d" + " ".repeat(97) + "2", 120);
        fault(Edges.THREE + "d" + " ".repeat(97) + "4", 119);
        fault(Edges.THREE + "r" + " ".repeat(96) + "48", 120);
        fault(Edges.THREE + "r" + " ".repeat(96) + "49", 118);
    }

    private static void blanks() {
        answers("r0 1 1;r0 1 1;r0 1 1;d2;", 4);
        answers("   r   0   1   1   ;   r0 1 1 ;r 0 1 1;  d  2  ;   ", 4);
        fault("      ", 6);
        fault("r4 8 1 1;", 7);
        fault("r48 1 1;r1 0 1;", 11);
        fault("d 1 2;", 4);
        int[] none = {0, 9, 10, 13, 31, 33, 160, 255};
        for (int letter : none) {
            fault("r0" + (char) letter + "1 1;", 2);
            fault((char) letter + Edges.THREE, 0);
            fault(Edges.THREE + (char) letter, 21);
        }
    }

    private static void itemEnds() {
        fault(ROD + ROD + "r0 1 1", 20);
        fault(Edges.THREE + "d2", 23);
        fault("r0 1 1 r0 1 1;", 7);
        fault("r0 1 1d2;", 6);
        fault("d2 r0 1 1;", 3);
        fault(";" + Edges.THREE, 0);
        fault(Edges.THREE + ";", 21);
        fault("r0 1 1;;r0 1 1;r0 1 1;", 7);
    }

    private static void dampOnce() {
        answers("d2;" + Edges.THREE, 4);
        answers("r0 1 1;d2;r0 1 1;r0 1 1;", 4);
        answers(Edges.THREE + "d2;", 4);
        fault("d2;d2;" + Edges.THREE, 3);
        fault("d2;" + Edges.THREE + " d3;", 25);
        fault("d;", 1);
        fault("d2 2;", 3);
        RodChimes x = Check.chime("d3;" + Edges.THREE);
        Check.type(x, "d2;" + Edges.THREE);
        Check.due("once in each text", 4, x.chime());
    }

    private static void firstFault() {
        fault("x", 0);
        fault("7", 0);
        fault("   77 ;", 3);
        fault("r r d x", 2);
        fault("r 99 99 99", 2);
        fault("r0 1 1; 55;", 8);
        fault("r0;", 2);
        fault("r0 r", 3);
        fault("r0 1;", 4);
        fault("r0 1 d", 5);
        fault("r0 1 1 33;", 7);
    }

    /** A TOKEN of the right sort at that place, which can't stand there all the same. */
    private static void faultsOfTheSecondLook() {
        fault(ROD.repeat(8) + "  r0 1 1;", 58);
        fault(ROD.repeat(8) + "d1; r99", 60);
        fault("d1;r0 1 1;d1;", 10);
        fault("r49 0 0;", 1);
        fault("r48 0 0;", 4);
        fault("r48 9 0;", 6);
        fault("r48 10 0;", 4);
        fault("r48 9 10;", 6);
        fault("d4;d4;", 1);
    }

    private static void otherLetters() {
        for (int letter = 0; letter <= 255; letter++) {
            char c = (char) letter;
            if (c != 'r' && c != 'd' && c != ' ') {
                fault(c + "", 0);
            }
            if (c != ' ' && (c < '0' || c > '9')) {
                fault("r" + c, 1);
            }
            if (c != ' ' && c != ';' && (c < '0' || c > '9')) {
                fault("r0 1 1" + c, 6);
            }
        }
        fault("r0 1 1R", 6);
        fault("D1;", 0);
        fault("r1x 1 1;", 2);
        fault("r0 1.5 1;", 4);
    }

    private static void noNumbers() {
        fault("r99 1 1;", 1);
        fault("r100 1 1;", 1);
        fault("r 999 1 1;", 2);
        fault("100", 0);
        fault("r0 1 1 100", 7);
        fault("r00 1 1;", 1);
        fault("r01 1 1;", 1);
        fault("r048 1 1;", 1);
        fault("r0 01 1;", 3);
        fault("r0 1 09;", 5);
        fault("d01;", 1);
        fault("d000;", 1);
        answers("r0 1 1;r10 1 1;r40 1 1;", 3);
        // they would be 1, were they counted round 2 to the 8th, 16th, 32nd or 64th
        String[] round = {"257", "65537", "4294967297", "18446744073709551617"};
        for (String number : round) {
            fault("r" + number + " 1 1;r0 1 1;r0 1 1;", 1);
            fault("r0 " + number + " 1;r0 1 1;r0 1 1;", 3);
            fault("r0 1 " + number + ";r0 1 1;r0 1 1;", 5);
            fault("d" + number + ";" + Edges.THREE, 1);
        }
        fault("r" + "1".repeat(119), 1);
        fault("9".repeat(120), 0);
        fault("r" + "0".repeat(119), 1);
    }

    private static void endsTooEarly() {
        String text = "d2;r48 9 9 ;r0 1 1;r10 1 1;";
        for (int length = 0; length < text.length(); length++) {
            fault(text.substring(0, length), length);
            fault(text.substring(0, length) + " ", length + 1);
        }
        answers(text, 4);
        fault(Edges.THREE + "r", 22);
        fault(Edges.THREE + "d", 22);
        fault("r" + " ".repeat(119), 120);
    }

    private static void tooFewRods() {
        fault("", 0);
        fault("d1;", 3);
        fault(ROD + ROD + "d1;", 17);
        fault(ROD + ROD + "   ", 17);
        fault(ROD + ROD + "r0 1 1;;", 21);
        fault(ROD + ROD + "x", 14);
        fault("d1;d1;", 3);
    }

    // ---- the promises

    private static void newObject() {
        RodChimes x = new RodChimes();
        Check.due("rods", 0, x.count(0));
        Check.due("damp", 1, x.count(1));
        Check.due("heard", 0, x.count(2));
        Check.due("letters", 0, x.count(3));
        Check.due("trace", 0, x.trace());
        for (int what = 0; what <= 6; what++) {
            Check.due("now(" + what + ")", 0, x.now(what));
        }
        Check.due("image 0", -2, x.back(0));
        Check.due("image 1", -2, x.back(1));
        Check.due("undo()", -2, x.undo());
    }

    private static void typesLetters() {
        for (int letter = 0; letter <= 255; letter++) {
            int l = letter;
            RodChimes x = new RodChimes();
            Check.due("type(" + l + ")", 1, () -> x.type(l));
            Check.due("type(" + l + ") again", 2, () -> x.type(l));
        }
        RodChimes x = Edges.busy();
        Check.due("behind a text that was read, from 1 on", 22, x.type('d'));
    }

    private static void refusesLetters() {
        int[] wrong = {Edges.MIN, -256, -1, 256, 257, 256 + 'r', Edges.MAX};
        for (int letter : wrong) {
            Edges.unchanged("type(" + letter + ")", -1, Edges::busy, x -> x.type(letter));
            Edges.unchanged("type(" + letter + ") to a full text", -1, Edges::brimful, x -> x.type(letter));
        }
        Edges.unchanged("type('x') to a full text", -3, Edges::brimful, x -> x.type('x'));
        Edges.unchanged("type(0) to a full text", -3, Edges::brimful, x -> x.type(0));
        Edges.unchanged("type(255) to a full text", -3, Edges::brimful, x -> x.type(255));
    }

    private static void clears() {
        Edges.unchanged("clear() of an empty text", 0, Edges::three, x -> x.clear());
        RodChimes x = Edges.brimful();
        Check.due("clear() of a full text", 120, x.clear());
        Check.due("letters", 0, x.count(3));
        Check.due("it is empty", -10, x.chime());
        Check.due("clear() again", 0, x.clear());
        Check.due("the chime stays", 3, x.count(0));
        Check.due("type()", 1, x.type('r'));
        // the letters that were there are not read: 10 would be a GAP too great
        RodChimes y = Edges.typed("r0 10 1;");
        y.clear();
        Check.type(y, "r0 1");
        Check.due("it ends too early", -14, y.chime());
    }

    private static void reads() {
        RodChimes x = Edges.busy();
        Check.due("chime()", 3, x.chime());
        Check.due("the text is empty", 0, x.count(3));
        Check.due("chime() again", -10, x.chime());
        Check.due("the chime stays", 5, x.rod(0, 0));
        RodChimes fewest = Edges.typed(Edges.THREE);
        Check.due("fewest items", 3, fewest.chime());
        RodChimes most = Edges.typed("d1;" + ROD.repeat(8));
        Check.due("most items", 9, most.chime());
    }

    private static void doesNotRead() {
        Edges.unchanged("chime() of no text", -10, Edges::three, x -> x.chime());
        Edges.unchanged("chime() of no text, without rods", -10, RodChimes::new, x -> x.chime());
        Edges.unchanged("chime() of a text with a fault", -10 - 38, () -> busyWith("r9 9 9;r8 8 8;d3;;"), x -> x.chime());
        Edges.unchanged("chime() of a text that ends", -10 - 25, () -> busyWith("d3;r"), x -> x.chime());
        RodChimes full = Edges.typed("r0 1 1;".repeat(2) + " ".repeat(106));
        Check.due("the last fault of all", -130, full.chime());
        Check.due("the text stays", 120, full.count(3));
    }

    /** The text of busy() has 21 letters ahead of these. */
    private static RodChimes busyWith(String more) {
        RodChimes x = Edges.busy();
        Check.type(x, more);
        return x;
    }

    private static void rodIsBad() {
        int[] wrong = {Edges.MIN, -1, 3, 8, 32, Edges.MAX};
        for (int w : wrong) {
            for (int what = -1; what <= 5; what++) {
                int wh = what;
                Check.due("rod(" + w + ", " + wh + ")", -1, () -> Edges.three().rod(w, wh));
            }
            Check.due("rod(0, " + w + "), without rods", -1, () -> new RodChimes().rod(0, w));
        }
        int[] wrongWhat = {Edges.MIN, -1, 5, 32, Edges.MAX};
        for (int w : wrongWhat) {
            Edges.unchanged("rod(2, " + w + ")", -1, Edges::busy, x -> x.rod(2, w));
        }
        for (int rods = 3; rods <= 8; rods++) {
            RodChimes x = Check.chime(ROD.repeat(rods));
            int behind = rods;
            Check.due("the last rod", 1, x.rod(rods - 1, 1));
            Check.due("behind it", -1, () -> x.rod(behind, 1));
        }
        Edges.unchanged("rod(2, 4)", 0, Edges::busy, x -> x.rod(2, 4));
    }

    private static void sideIsBad() {
        int[] wrong = {Edges.MIN, -1, 3, 8, 32, Edges.MAX};
        for (int w : wrong) {
            Edges.unchanged("side(" + w + ")", -1, Edges::busy, x -> x.side(w));
            Check.due("side(" + w + "), without sides", -1, () -> new RodChimes().side(w));
        }
        Check.due("side(0), without sides", -1, () -> new RodChimes().side(0));
        Edges.unchanged("side(2)", 1, Edges::busy, x -> x.side(2));
    }

    /**
     * FAR is 8 at most behind a BEAT, as a GUST of 9 strikes any ROD: it is 1 in the 7th calm BEAT,
     * and who is struck there rings for 9. So STILL is 16 at most, and NONE can't be.
     */
    private static void longestTillStill() {
        RodChimes x = Check.chime("r0 9 1;r0 1 9;" + "r0 9 1;".repeat(5));
        x.blows(0, 8);
        x.changes(0, 1);
        Check.due("still", 16, x.now(5));
        for (int left = 15; left >= 0; left--) {
            x.calms();
            Check.due("still", left, x.now(5));
        }
        x.calms();
        Check.due("still already", 0, x.now(5));
        Check.due("without rods", 0, new RodChimes().now(5));
    }

    private static void nowIsBad() {
        int[] wrong = {Edges.MIN, -1, 7, 32, Edges.MAX};
        for (int w : wrong) {
            Edges.unchanged("now(" + w + ")", -1, Edges::busy, x -> x.now(w));
            Check.due("now(" + w + "), without rods", -1, () -> new RodChimes().now(w));
        }
        Edges.unchanged("now(6)", 6, Edges::busy, x -> x.now(6));
        Edges.unchanged("now(6), as many as can be", 10, Edges::brimful, x -> x.now(6));
        Edges.unchanged("now(6), none", 0, Edges::three, x -> x.now(6));
    }

    private static void counts() {
        int[] wrong = {Edges.MIN, -1, 4, 32, Edges.MAX};
        for (int w : wrong) {
            Edges.unchanged("count(" + w + ")", -1, Edges::busy, x -> x.count(w));
            Check.due("count(" + w + "), without rods", -1, () -> new RodChimes().count(w));
        }
        Check.due("most rods", 8, Check.chime(ROD.repeat(8)).count(0));
        Check.due("most damp", 3, Check.chime("d3;" + ROD.repeat(3)).count(1));
        Check.due("most heard", 6, Edges.brimful().count(2));
        Check.due("most letters", 120, Edges.brimful().count(3));
    }
}
