/**
 * A wind chime: RODS in a ring round a CLAPPER that GUSTS blow about.
 *
 * The words in capitals are those of the document. No call throws, and none but the constructor
 * makes an object: what a call has to try out, it tries out on rows that are made once.
 */
public final class RodChimes {
    public static final int BAD = -1, STATE = -2, FULL = -3, NONE = -9;
    public static final int NO = -1000000;

    private static final int MOST_LETTERS = 120;
    private static final int MOST_RODS = 8;
    private static final int FEWEST_RODS = 3;
    private static final int LAST_BEAT = 999;
    private static final int STRONGEST = 9;
    private static final int MOST_CALMS = 20;
    private static final int MOST_TO_STILL = 60;
    private static final int MOST_HEARD = 6;
    private static final int MOST_KNOWN = 10;
    private static final int IMAGES = 2;

    /** Worth less than any GUST that may be answered. */
    private static final int UNFIT = -1000;

    private final Text text = new Text();
    private final Rack rack = new Rack();
    private final Moment present = new Moment(rack);
    private final Course course = new Course(rack);

    /** Moments as they were ahead of what was done; the next one goes to pastNext. */
    private final Moment[] past = new Moment[MOST_KNOWN];
    private int pastNext;
    private int known;

    private final Moment[] images = new Moment[IMAGES];
    private final boolean[] imageKept = new boolean[IMAGES];

    private final int[] heardRod = new int[MOST_HEARD];
    private final int[] heardCalms = new int[MOST_HEARD];
    private final boolean[] heardStruck = new boolean[MOST_HEARD];
    private int heard;

    /** By how many GUSTS each ROD is STRUCK; only listen() uses it, and clears it first. */
    private final int[] strikes = new int[MOST_RODS];

    private long bodiesAsked;

    public RodChimes() {
        for (int i = 0; i < MOST_KNOWN; i++) {
            past[i] = new Moment(rack);
        }
        for (int i = 0; i < IMAGES; i++) {
            images[i] = new Moment(rack);
        }
    }

    // ---- the chime

    public int type(int letter) {
        if (!isWithin(letter, 0, 255)) {
            return BAD;
        }
        return text.add(letter) ? text.length : FULL;
    }

    public int clear() {
        int had = text.length;
        text.length = 0;
        return had;
    }

    public int chime() {
        int fault = text.read();
        if (fault != Text.NO_FAULT) {
            return -10 - fault;
        }
        rack.take(text.draft);
        present.start();
        text.length = 0;
        heard = 0;
        known = 0;
        for (int i = 0; i < IMAGES; i++) {
            imageKept[i] = false;
        }
        return text.items;
    }

    public int rod(int r, int what) {
        if (!rack.has(r)) {
            return BAD;
        }
        switch (what) {
            case 0: return rack.tone[r];
            case 1: return rack.gap[r];
            case 2: return rack.ring[r];
            case 3: return present.sideOf[r];
            case 4: return present.rings[r];
            default: return BAD;
        }
    }

    public int side(int s) {
        return isSide(s) ? present.rodAt(s) : BAD;
    }

    public int now(int what) {
        switch (what) {
            case 0: return present.beat;
            case 1: return present.towards;
            case 2: return present.far;
            case 3: return present.ringing();
            case 4: return present.harsh();
            case 5: return course.calmsToStill(present);
            case 6: return known;
            default: return BAD;
        }
    }

    // ---- what is done

    public int blows(int side, int strong) {
        if (!isSide(side) || !isStrength(strong)) {
            return BAD;
        }
        if (present.beat >= LAST_BEAT) {
            return STATE;
        }
        remember();
        return present.passGust(side, strong);
    }

    public int calms() {
        if (rack.rods == 0 || present.beat >= LAST_BEAT) {
            return STATE;
        }
        remember();
        return present.passCalm();
    }

    public int changes(int a, int b) {
        if (!rack.has(a) || !rack.has(b) || a == b) {
            return BAD;
        }
        remember();
        present.exchange(a, b);
        return present.harsh();
    }

    public int holds(int r) {
        if (!rack.has(r)) {
            return BAD;
        }
        int rung = present.rings[r];
        if (rung == 0) {
            return STATE;
        }
        remember();
        present.rings[r] = 0;
        return rung;
    }

    public int undo() {
        if (known == 0) {
            return STATE;
        }
        known--;
        pastNext = pastNext > 0 ? pastNext - 1 : MOST_KNOWN - 1;
        present.copy(past[pastNext]);
        return known;
    }

    /** The oldest moment gives its place to this one if MOST_KNOWN are known. */
    private void remember() {
        past[pastNext].copy(present);
        pastNext = pastNext < MOST_KNOWN - 1 ? pastNext + 1 : 0;
        known = Math.min(known + 1, MOST_KNOWN);
    }

    // ---- what comes, what is best

    public int comes(int n, int what) {
        if (!areCalms(n) || !isWithin(what, 0, 1)) {
            return BAD;
        }
        course.start(present);
        course.note(NONE);
        course.passCalms(n);
        return what == 0 ? course.struck : course.harshest;
    }

    public int best(int n, int what) {
        if (!areCalms(n) || !isWithin(what, 0, 1)) {
            return BAD;
        }
        int best = NONE;
        int bestWorth = UNFIT;
        for (int side = 0; side < rack.rods; side++) {
            for (int strong = 1; strong <= STRONGEST; strong++) {
                follow(side, strong, n);
                int worth = what == 0 ? course.struckCount() : course.mildness();
                if (worth > bestWorth) {
                    best = gustNumber(side, strong);
                    bestWorth = worth;
                }
            }
        }
        return best;
    }

    public int swap(int side, int strong, int n) {
        if (!isSide(side) || !isStrength(strong) || !areCalms(n)) {
            return BAD;
        }
        follow(side, strong, n);
        int leastHarsh = course.harshest;
        int best = NONE;
        for (int a = 0; a < rack.rods; a++) {
            for (int b = a + 1; b < rack.rods; b++) {
                followChanged(a, b, side, strong, n);
                if (course.harshest < leastHarsh) {
                    best = 10 * a + b;
                    leastHarsh = course.harshest;
                }
            }
        }
        return best;
    }

    public int odds(int strong, int n, int r, int what) {
        if (!isStrength(strong) || !areCalms(n) || !rack.has(r) || !isWithin(what, 0, 1)) {
            return BAD;
        }
        int striking = 0;
        for (int side = 0; side < rack.rods; side++) {
            follow(side, strong, n);
            if (course.hasStruckWithin(r, n)) {
                striking++;
            }
        }
        int shared = greatestShared(striking, rack.rods);
        return (what == 0 ? striking : rack.rods) / shared;
    }

    /** The course becomes that of a GUST NOW and n calm BEATS behind it. */
    private void follow(int side, int strong, int n) {
        course.start(present);
        course.passGust(side, strong);
        course.passCalms(n);
    }

    private void followChanged(int a, int b, int side, int strong, int n) {
        course.start(present);
        course.moment.exchange(a, b);
        course.passGust(side, strong);
        course.passCalms(n);
    }

    /** The greatest number that divides both; 1 at least. */
    private static int greatestShared(int upper, int lower) {
        for (int by = lower; by > 1; by--) {
            if (upper % by == 0 && lower % by == 0) {
                return by;
            }
        }
        return 1;
    }

    // ---- which gust

    public int hears(int r, int n, int struck) {
        if (!rack.has(r) || !areCalms(n) || !isWithin(struck, 0, 1)) {
            return BAD;
        }
        if (heard >= MOST_HEARD) {
            return FULL;
        }
        heardRod[heard] = r;
        heardCalms[heard] = n;
        heardStruck[heard] = struck == 1;
        heard++;
        return heard;
    }

    public int forget() {
        int was = heard;
        heard = 0;
        return was;
    }

    public int gusts(int what) {
        if (!isWithin(what, 0, 1)) {
            return BAD;
        }
        int fitting = 0;
        int first = NONE;
        for (int side = 0; side < rack.rods; side++) {
            for (int strong = 1; strong <= STRONGEST; strong++) {
                follow(side, strong, MOST_CALMS);
                if (fitsHeard()) {
                    fitting++;
                    first = first == NONE ? gustNumber(side, strong) : first;
                }
            }
        }
        return what == 0 ? fitting : first;
    }

    public int listen(int n) {
        if (!areCalms(n)) {
            return BAD;
        }
        int fitting = countStrikes(n);
        if (fitting <= 1) {
            return NONE;
        }
        int best = NONE;
        int bestPart = fitting + 1;
        for (int r = 0; r < rack.rods; r++) {
            int greaterPart = Math.max(strikes[r], fitting - strikes[r]);
            if (greaterPart < bestPart) {
                best = r;
                bestPart = greaterPart;
            }
        }
        return best;
    }

    /** Counts into strikes over the GUSTS that fit what was HEARD: how many fit. */
    private int countStrikes(int n) {
        for (int r = 0; r < MOST_RODS; r++) {
            strikes[r] = 0;
        }
        int fitting = 0;
        for (int side = 0; side < rack.rods; side++) {
            for (int strong = 1; strong <= STRONGEST; strong++) {
                follow(side, strong, MOST_CALMS);
                if (fitsHeard()) {
                    fitting++;
                    addStrikes(n);
                }
            }
        }
        return fitting;
    }

    private void addStrikes(int n) {
        for (int r = 0; r < rack.rods; r++) {
            if (course.hasStruckWithin(r, n)) {
                strikes[r]++;
            }
        }
    }

    /** Asks the course of one GUST, which goes on for MOST_CALMS so that it answers for every n. */
    private boolean fitsHeard() {
        for (int i = 0; i < heard; i++) {
            if (course.hasStruckWithin(heardRod[i], heardCalms[i]) != heardStruck[i]) {
                return false;
            }
        }
        return true;
    }

    // ---- kinds, images

    public int rate(int kind, int r) {
        if (!rack.has(r)) {
            return NO;
        }
        switch (kind) {
            case 0: return rateChime(r);
            case 1: return rateGlass(r);
            case 2: return rateShell(r);
            case 3: return rateBell(r);
            case 4: return rateBone(r);
            case 5: return rateBrass(r);
            default: return NO;
        }
    }

    private int rateChime(int r) {
        bodiesAsked += 1;
        return rack.tone[r];
    }

    private int rateGlass(int r) {
        bodiesAsked += 10;
        return rateChime(r) + present.rings[r];
    }

    private int rateShell(int r) {
        bodiesAsked += 100;
        return rateChime(r) - present.far;
    }

    /** Doubles one answer: the kinds above must be asked once, not twice. */
    private int rateBell(int r) {
        bodiesAsked += 1000;
        return 2 * rateGlass(r);
    }

    private int rateBone(int r) {
        bodiesAsked += 10000;
        return rateShell(r) + r;
    }

    private int rateBrass(int r) {
        bodiesAsked += 100000;
        return rateChime(r) + present.beat;
    }

    public int keep(int image) {
        if (!isWithin(image, 0, IMAGES - 1)) {
            return BAD;
        }
        images[image].copy(present);
        imageKept[image] = true;
        return present.beat;
    }

    public int back(int image) {
        if (!isWithin(image, 0, IMAGES - 1)) {
            return BAD;
        }
        if (!imageKept[image]) {
            return STATE;
        }
        present.copy(images[image]);
        known = 0;
        return present.beat;
    }

    public int count(int what) {
        switch (what) {
            case 0: return rack.rods;
            case 1: return rack.damp;
            case 2: return heard;
            case 3: return text.length;
            default: return BAD;
        }
    }

    public long trace() {
        return bodiesAsked;
    }

    // ---- what numbers may be

    private static boolean isWithin(int number, int least, int most) {
        return number >= least && number <= most;
    }

    /** SIDES are as many as RODS. */
    private boolean isSide(int side) {
        return rack.has(side);
    }

    private static boolean isStrength(int strong) {
        return isWithin(strong, 1, STRONGEST);
    }

    private static boolean areCalms(int n) {
        return isWithin(n, 0, MOST_CALMS);
    }

    private static int gustNumber(int side, int strong) {
        return 10 * side + strong;
    }

    /** The RODS and the DAMP, as a text told them. */
    private static final class Rack {
        private int rods;
        private int damp = 1;
        private final int[] tone = new int[MOST_RODS];
        private final int[] gap = new int[MOST_RODS];
        private final int[] ring = new int[MOST_RODS];

        private boolean has(int r) {
            return r >= 0 && r < rods;
        }

        private void empty() {
            rods = 0;
            damp = 1;
        }

        /** False if there is no place for one more. */
        private boolean add(int itsTone, int itsGap, int itsRing) {
            if (rods >= MOST_RODS) {
                return false;
            }
            tone[rods] = itsTone;
            gap[rods] = itsGap;
            ring[rods] = itsRing;
            rods++;
            return true;
        }

        private void take(Rack other) {
            rods = other.rods;
            damp = other.damp;
            for (int r = 0; r < MOST_RODS; r++) {
                tone[r] = other.tone[r];
                gap[r] = other.gap[r];
                ring[r] = other.ring[r];
            }
        }

        private boolean clash(int a, int b) {
            int apart = tone[a] < tone[b] ? tone[b] - tone[a] : tone[a] - tone[b];
            switch (apart % 12) {
                case 1: case 2: case 6: case 10: case 11: return true;
                default: return false;
            }
        }
    }

    /** THE TEXT, and the reading of it into a draft, so that a FAULT changes no RODS in use. */
    private static final class Text {
        private static final int NO_FAULT = -1;
        private static final int NO_NUMBER = -1;

        /** What the next TOKEN is to be. */
        private static final int ITEM = 0, TONE = 1, GAP = 2, RING = 3, DAMP = 4, ITEM_END = 5, WRONG = 6;

        private final int[] letters = new int[MOST_LETTERS];
        private int length;

        private final Rack draft = new Rack();
        private int items;
        private boolean dampTold;
        private int toneTold;
        private int gapTold;

        /** False if there is no place for one more. */
        private boolean add(int letter) {
            if (length >= MOST_LETTERS) {
                return false;
            }
            letters[length] = letter;
            length++;
            return true;
        }

        /** The FAULT; NO_FAULT: the draft holds what the text tells. */
        private int read() {
            draft.empty();
            items = 0;
            dampTold = false;
            int due = ITEM;
            for (int place = 0; place < length; place++) {
                if (startsToken(place)) {
                    due = dueBehind(due, place);
                }
                if (due == WRONG) {
                    return place;
                }
            }
            return due == ITEM && draft.rods >= FEWEST_RODS ? NO_FAULT : length;
        }

        private boolean startsToken(int place) {
            return letters[place] != ' ' && !(isDigit(place) && isDigit(place - 1));
        }

        private boolean isDigit(int place) {
            return place >= 0 && place < length && letters[place] >= '0' && letters[place] <= '9';
        }

        /** What is due behind the TOKEN at a place, where what was due is known. */
        private int dueBehind(int due, int place) {
            if (isDigit(place)) {
                return dueBehindNumber(due, numberAt(place));
            }
            if (letters[place] == ';' && due == ITEM_END) {
                items++;
                return ITEM;
            }
            if (letters[place] == 'r' && due == ITEM && draft.rods < MOST_RODS) {
                return TONE;
            }
            if (letters[place] == 'd' && due == ITEM && !dampTold) {
                dampTold = true;
                return DAMP;
            }
            return WRONG;
        }

        private int dueBehindNumber(int due, int number) {
            switch (due) {
                case TONE:
                    toneTold = number;
                    return isWithin(number, 0, 48) ? GAP : WRONG;
                case GAP:
                    gapTold = number;
                    return isWithin(number, 1, 9) ? RING : WRONG;
                case RING:
                    return isWithin(number, 1, 9) && draft.add(toneTold, gapTold, number) ? ITEM_END : WRONG;
                case DAMP:
                    draft.damp = number;
                    return isWithin(number, 1, 3) ? ITEM_END : WRONG;
                default:
                    return WRONG;
            }
        }

        /** NO_NUMBER, which may stand nowhere: above 99, or a 0 ahead of other digits. */
        private int numberAt(int place) {
            int first = letters[place] - '0';
            if (!isDigit(place + 1)) {
                return first;
            }
            if (first == 0 || isDigit(place + 2)) {
                return NO_NUMBER;
            }
            return 10 * first + letters[place + 1] - '0';
        }
    }

    /** What a BEAT changes: the BEAT, the CLAPPER, the SIDES of RODS, what rings. */
    private static final class Moment {
        private final Rack rack;
        private int beat;
        private int towards;
        private int far;
        private final int[] sideOf = new int[MOST_RODS];
        private final int[] rings = new int[MOST_RODS];

        private Moment(Rack itsRack) {
            rack = itsRack;
        }

        private void start() {
            beat = 0;
            towards = 0;
            far = 0;
            for (int r = 0; r < MOST_RODS; r++) {
                sideOf[r] = r;
                rings[r] = 0;
            }
        }

        private void copy(Moment other) {
            beat = other.beat;
            towards = other.towards;
            far = other.far;
            for (int r = 0; r < MOST_RODS; r++) {
                sideOf[r] = other.sideOf[r];
                rings[r] = other.rings[r];
            }
        }

        /** The ROD that is STRUCK; NONE. */
        private int passGust(int side, int strong) {
            fade();
            if (strong >= far) {
                towards = side;
                far = strong;
            } else {
                swingOver();
            }
            return strike();
        }

        /** The ROD that is STRUCK; NONE. */
        private int passCalm() {
            fade();
            swingOver();
            return strike();
        }

        private void fade() {
            beat++;
            for (int r = 0; r < rack.rods; r++) {
                rings[r] = Math.max(rings[r] - 1, 0);
            }
        }

        private void swingOver() {
            int further = towards + rack.rods / 2;
            towards = further < rack.rods ? further : further - rack.rods;
            far = Math.max(far - rack.damp, 0);
        }

        private int strike() {
            int r = rodAt(towards);
            if (!rack.has(r) || far < rack.gap[r]) {
                return NONE;
            }
            rings[r] = rack.ring[r];
            far--;
            return r;
        }

        private int rodAt(int side) {
            for (int r = 0; r < rack.rods; r++) {
                if (sideOf[r] == side) {
                    return r;
                }
            }
            return NONE;
        }

        private void exchange(int a, int b) {
            int side = sideOf[a];
            sideOf[a] = sideOf[b];
            sideOf[b] = side;
        }

        private int ringing() {
            int bits = 0;
            for (int r = 0; r < rack.rods; r++) {
                if (rings[r] > 0) {
                    bits |= 1 << r;
                }
            }
            return bits;
        }

        private int harsh() {
            int twos = 0;
            for (int a = 0; a < rack.rods; a++) {
                for (int b = a + 1; b < rack.rods && rings[a] > 0; b++) {
                    if (rings[b] > 0 && rack.clash(a, b)) {
                        twos++;
                    }
                }
            }
            return twos;
        }

        private boolean isStill() {
            return far == 0 && ringing() == 0;
        }
    }

    /** What would come: a moment that passes on from NOW, and what is noted on its way. */
    private static final class Course {
        private final Moment moment;
        private int calmsPassed;
        private int struck;
        private int harshest;

        /** Behind how many calm BEATS each of the RODS in struck was so first; stale for others. */
        private final int[] firstStruck = new int[MOST_RODS];

        private Course(Rack rack) {
            moment = new Moment(rack);
        }

        private void start(Moment from) {
            moment.copy(from);
            calmsPassed = 0;
            struck = 0;
            harshest = 0;
        }

        private void passGust(int side, int strong) {
            note(moment.passGust(side, strong));
        }

        /** Stops where FAR is 0: no ROD is STRUCK from there on, and no more RODS ring than did. */
        private void passCalms(int n) {
            for (int i = 0; i < n && moment.far > 0; i++) {
                calmsPassed++;
                note(moment.passCalm());
            }
        }

        /** What a BEAT has brought: the ROD that was STRUCK, or NONE. */
        private void note(int r) {
            if (moment.rack.has(r) && !hasStruck(r)) {
                struck |= 1 << r;
                firstStruck[r] = calmsPassed;
            }
            harshest = Math.max(harshest, moment.harsh());
        }

        private boolean hasStruck(int r) {
            return (struck & 1 << r) != 0;
        }

        private boolean hasStruckWithin(int r, int calms) {
            return hasStruck(r) && firstStruck[r] <= calms;
        }

        private int struckCount() {
            return Integer.bitCount(struck);
        }

        /** The more, the less HARSH; UNFIT if no ROD is STRUCK. */
        private int mildness() {
            return struck == 0 ? UNFIT : -harshest;
        }

        private int calmsToStill(Moment from) {
            start(from);
            for (int calms = 0; calms <= MOST_TO_STILL; calms++) {
                if (moment.isStill()) {
                    return calms;
                }
                moment.passCalm();
            }
            return NONE;
        }
    }
}
