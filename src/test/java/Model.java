import java.util.ArrayDeque;
import java.util.ArrayList;
import java.util.HashMap;
import java.util.List;
import java.util.Map;
import java.util.TreeSet;
import java.util.regex.Matcher;
import java.util.regex.Pattern;

/**
 * The document's words written down a second time, in another way than the class: values that are
 * never changed, whole courses with no short cut, every choice made over a full list.
 */
final class Model {
    static final int BAD = -1, STATE = -2, FULL = -3, NONE = -9, NO = -1000000;

    record Rod(int tone, int gap, int ring) {
    }

    record Now(int beat, int towards, int far, List<Integer> rodAtSide, List<Integer> rings) {
    }

    record Step(Now now, int struck) {
    }

    record Heard(int rod, int calms, boolean struck) {
    }

    private String text = "";
    private List<Rod> rods = List.of();
    private int damp = 1;
    private Now now = new Now(0, 0, 0, List.of(), List.of());
    private final ArrayDeque<Now> done = new ArrayDeque<>();
    private final List<Heard> heard = new ArrayList<>();
    private final Map<Integer, Now> images = new HashMap<>();
    private long trace = 0;

    int type(int letter) {
        if (letter < 0 || letter > 255) return BAD;
        if (text.length() == 120) return FULL;
        text += (char) letter;
        return text.length();
    }

    int clear() {
        int had = text.length();
        text = "";
        return had;
    }

    int chime() {
        List<Rod> read = new ArrayList<>();
        int readDamp = 0;
        int items = 0;
        List<String> item = new ArrayList<>();
        Matcher tokens = Pattern.compile("[0-9]+|[^ ]", Pattern.DOTALL).matcher(text);
        while (tokens.find()) {
            String token = tokens.group();
            item.add(token);
            if (!mayBegin(item) || item.get(0).equals("r") && read.size() == 8
                    || item.get(0).equals("d") && readDamp != 0) {
                return -10 - tokens.start();
            }
            if (token.equals(";")) {
                items++;
                if (item.get(0).equals("d")) {
                    readDamp = Integer.parseInt(item.get(1));
                } else {
                    read.add(new Rod(Integer.parseInt(item.get(1)), Integer.parseInt(item.get(2)),
                            Integer.parseInt(item.get(3))));
                }
                item.clear();
            }
        }
        if (!item.isEmpty() || read.size() < 3) return -10 - text.length();
        rods = read;
        damp = readDamp == 0 ? 1 : readDamp;
        List<Integer> places = new ArrayList<>();
        List<Integer> rings = new ArrayList<>();
        for (int i = 0; i < rods.size(); i++) {
            places.add(i);
            rings.add(0);
        }
        now = new Now(0, 0, 0, places, rings);
        done.clear();
        heard.clear();
        images.clear();
        text = "";
        return items;
    }

    /** Whether the tokens may stand at the start of an item. */
    private static boolean mayBegin(List<String> item) {
        String joined = String.join(" ", item);
        String tone = "([0-9]|[1-3][0-9]|4[0-8])";
        return joined.matches("r( " + tone + "( [1-9]( [1-9]( ;)?)?)?)?") || joined.matches("d( [1-3]( ;)?)?");
    }

    private boolean isRod(int r) {
        return r >= 0 && r < rods.size();
    }

    private static boolean isN(int n) {
        return n >= 0 && n <= 20;
    }

    private static boolean isBit(int b) {
        return b == 0 || b == 1;
    }

    private static boolean isStrong(int s) {
        return s >= 1 && s <= 9;
    }

    int rod(int r, int what) {
        if (!isRod(r) || what < 0 || what > 4) return BAD;
        Rod rod = rods.get(r);
        return new int[] {rod.tone, rod.gap, rod.ring, now.rodAtSide.indexOf(r), now.rings.get(r)}[what];
    }

    int side(int s) {
        return isRod(s) ? now.rodAtSide.get(s) : BAD;
    }

    int now(int what) {
        return switch (what) {
            case 0 -> now.beat;
            case 1 -> now.towards;
            case 2 -> now.far;
            case 3 -> bits(ringing(now));
            case 4 -> harsh(now);
            case 5 -> still();
            case 6 -> done.size();
            default -> BAD;
        };
    }

    private static int bits(TreeSet<Integer> some) {
        return some.stream().mapToInt(r -> (int) Math.pow(2, r)).sum();
    }

    private static TreeSet<Integer> ringing(Now n) {
        TreeSet<Integer> some = new TreeSet<>();
        for (int r = 0; r < n.rings.size(); r++) {
            if (n.rings.get(r) != 0) some.add(r);
        }
        return some;
    }

    private int harsh(Now n) {
        int twos = 0;
        for (int a : ringing(n)) {
            for (int b : ringing(n)) {
                int apart = rods.get(b).tone - rods.get(a).tone;
                if (a != b && List.of(1, 2, 6, 10, 11).contains(Math.floorMod(apart, 12))) twos++;
            }
        }
        return twos / 2;
    }

    private int still() {
        Now n = now;
        for (int k = 0; k <= 60; k++) {
            if (n.far == 0 && ringing(n).isEmpty()) return k;
            n = calmStep(n).now;
        }
        return NONE;
    }

    private Step calmStep(Now n) {
        return step(n, -1, -1);
    }

    private Step step(Now n, int side, int strong) {
        List<Integer> rings = new ArrayList<>();
        for (int left : n.rings) rings.add(left == 0 ? 0 : left - 1);
        boolean blown = side >= 0 && strong >= n.far;
        int sides = rods.size();
        int towards = blown ? side : (n.towards + (int) Math.floor(sides / 2.0)) % sides;
        int far = blown ? strong : n.far > damp ? n.far - damp : 0;
        int there = n.rodAtSide.get(towards);
        boolean struck = far != 0 && far >= rods.get(there).gap;
        if (struck) rings.set(there, rods.get(there).ring);
        return new Step(new Now(n.beat + 1, towards, struck ? far - 1 : far, n.rodAtSide, rings), struck ? there : NONE);
    }

    private Now changed(Now n, int a, int b) {
        List<Integer> places = new ArrayList<>();
        for (int r : n.rodAtSide) places.add(r == a ? b : r == b ? a : r);
        return new Now(n.beat, n.towards, n.far, places, n.rings);
    }

    private void become(Now next) {
        done.addLast(now);
        if (done.size() > 10) done.removeFirst();
        now = next;
    }

    int blows(int side, int strong) {
        if (!isRod(side) || !isStrong(strong)) return BAD;
        if (now.beat == 999) return STATE;
        Step s = step(now, side, strong);
        become(s.now);
        return s.struck;
    }

    int calms() {
        if (rods.isEmpty() || now.beat == 999) return STATE;
        Step s = calmStep(now);
        become(s.now);
        return s.struck;
    }

    int changes(int a, int b) {
        if (!isRod(a) || !isRod(b) || a == b) return BAD;
        become(changed(now, a, b));
        return harsh(now);
    }

    int holds(int r) {
        if (!isRod(r)) return BAD;
        int left = now.rings.get(r);
        if (left == 0) return STATE;
        List<Integer> rings = new ArrayList<>(now.rings);
        rings.set(r, 0);
        become(new Now(now.beat, now.towards, now.far, now.rodAtSide, rings));
        return left;
    }

    int undo() {
        if (done.isEmpty()) return STATE;
        now = done.removeLast();
        return done.size();
    }

    /** All steps of a gust and n calm beats. */
    private List<Step> course(Now from, int side, int strong, int n) {
        List<Step> all = new ArrayList<>();
        all.add(step(from, side, strong));
        for (int i = 0; i < n; i++) all.add(calmStep(all.get(i).now));
        return all;
    }

    private static TreeSet<Integer> struckIn(List<Step> steps) {
        TreeSet<Integer> some = new TreeSet<>();
        for (Step s : steps) {
            if (s.struck != NONE) some.add(s.struck);
        }
        return some;
    }

    private int harshest(List<Step> steps) {
        return steps.stream().mapToInt(s -> harsh(s.now)).max().orElse(0);
    }

    int comes(int n, int what) {
        if (!isN(n) || !isBit(what)) return BAD;
        if (rods.isEmpty()) return 0;
        List<Step> all = new ArrayList<>();
        all.add(new Step(now, NONE));
        for (int i = 0; i < n; i++) all.add(calmStep(all.get(i).now));
        return what == 0 ? bits(struckIn(all)) : harshest(all);
    }

    private List<int[]> allGusts() {
        List<int[]> all = new ArrayList<>();
        for (int g = 0; g < rods.size() * 9; g++) all.add(new int[] {g / 9, g % 9 + 1});
        return all;
    }

    int best(int n, int what) {
        if (!isN(n) || !isBit(what)) return BAD;
        Map<Integer, Integer> worth = new HashMap<>();
        for (int[] g : allGusts()) {
            List<Step> steps = course(now, g[0], g[1], n);
            int many = struckIn(steps).size();
            if (what == 0) worth.put(10 * g[0] + g[1], many);
            if (what == 1 && many > 0) worth.put(10 * g[0] + g[1], -harshest(steps));
        }
        int top = worth.values().stream().mapToInt(w -> w).max().orElse(0);
        return worth.keySet().stream().filter(g -> worth.get(g) == top).mapToInt(g -> g).min().orElse(NONE);
    }

    int swap(int side, int strong, int n) {
        if (!isRod(side) || !isStrong(strong) || !isN(n)) return BAD;
        int without = harshest(course(now, side, strong, n));
        Map<Integer, Integer> by = new HashMap<>();
        for (int a = 0; a < rods.size(); a++) {
            for (int b = a + 1; b < rods.size(); b++) {
                int h = harshest(course(changed(now, a, b), side, strong, n));
                if (h < without) by.put(10 * a + b, h);
            }
        }
        int least = by.values().stream().mapToInt(h -> h).min().orElse(0);
        return by.keySet().stream().filter(k -> by.get(k) == least).mapToInt(k -> k).min().orElse(NONE);
    }

    int odds(int strong, int n, int r, int what) {
        if (!isStrong(strong) || !isN(n) || !isRod(r) || !isBit(what)) return BAD;
        int upper = 0;
        for (int side = 0; side < rods.size(); side++) {
            if (struckIn(course(now, side, strong, n)).contains(r)) upper++;
        }
        int lower = rods.size();
        int shared = java.math.BigInteger.valueOf(upper).gcd(java.math.BigInteger.valueOf(lower)).intValue();
        return what == 0 ? upper / shared : lower / shared;
    }

    int hears(int r, int n, int struck) {
        if (!isRod(r) || !isN(n) || !isBit(struck)) return BAD;
        if (heard.size() == 6) return FULL;
        heard.add(new Heard(r, n, struck == 1));
        return heard.size();
    }

    int forget() {
        int was = heard.size();
        heard.clear();
        return was;
    }

    private List<int[]> fitting() {
        List<int[]> fit = allGusts();
        for (Heard h : heard) {
            fit.removeIf(g -> struckIn(course(now, g[0], g[1], h.calms)).contains(h.rod) != h.struck);
        }
        return fit;
    }

    int gusts(int what) {
        if (!isBit(what)) return BAD;
        List<int[]> fit = fitting();
        if (what == 0) return fit.size();
        return fit.isEmpty() ? NONE : 10 * fit.get(0)[0] + fit.get(0)[1];
    }

    int listen(int n) {
        if (!isN(n)) return BAD;
        List<int[]> fit = fitting();
        if (fit.size() < 2) return NONE;
        int answer = NONE;
        int smallest = Integer.MAX_VALUE;
        for (int r = rods.size() - 1; r >= 0; r--) {
            int rod = r;
            int yes = (int) fit.stream().filter(g -> struckIn(course(now, g[0], g[1], n)).contains(rod)).count();
            int greater = Math.max(yes, fit.size() - yes);
            if (greater <= smallest) {
                smallest = greater;
                answer = r;
            }
        }
        return answer;
    }

    int rate(int kind, int r) {
        if (!isRod(r) || kind < 0 || kind > 5) return NO;
        int[] traces = {1, 11, 101, 1011, 10101, 100001};
        trace += traces[kind];
        int tone = rods.get(r).tone;
        int rings = now.rings.get(r);
        return new int[] {tone, tone + rings, tone - now.far, 2 * (tone + rings), tone - now.far + r, tone + now.beat}[kind];
    }

    int keep(int image) {
        if (!isBit(image)) return BAD;
        images.put(image, now);
        return now.beat;
    }

    int back(int image) {
        if (!isBit(image)) return BAD;
        if (!images.containsKey(image)) return STATE;
        now = images.get(image);
        done.clear();
        return now.beat;
    }

    int count(int what) {
        return switch (what) {
            case 0 -> rods.size();
            case 1 -> damp;
            case 2 -> heard.size();
            case 3 -> text.length();
            default -> BAD;
        };
    }

    long trace() {
        return trace;
    }
}
