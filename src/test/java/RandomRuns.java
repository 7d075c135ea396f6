import java.util.Random;

/** Long runs of calls, right and wrong ones, each answer against the model's. */
public final class RandomRuns {
    private static final int RUNS = 1500;
    private static final int CALLS = 512;

    private final Random random;
    private final RodChimes x = new RodChimes();
    private final Model model = new Model();
    private final StringBuilder log = new StringBuilder();
    private int calls = 0;

    private RandomRuns(long seed) {
        random = new Random(seed);
    }

    public static void main(String[] args) {
        for (int seed = 1; seed <= RUNS && Check.isRight(); seed++) {
            RandomRuns run = new RandomRuns(seed);
            run.play(seed);
        }
        Check.end("RandomRuns");
    }

    private void play(int seed) {
        if (seed % 10 != 0) {
            tell(rightText());
        }
        while (calls < CALLS && Check.isRight()) {
            switch (random.nextInt(40)) {
                case 0 -> tell(random.nextInt(3) == 0 ? rightText() : spoilt(rightText()));
                case 1 -> one("clear");
                default -> one(NAMES[random.nextInt(NAMES.length)]);
            }
        }
        if (!Check.isRight()) {
            System.out.println("seed " + seed + ":" + log);
        }
    }

    private static final String[] NAMES = {"rod", "rod", "side", "side", "now", "now", "now", "blows", "blows", "blows",
        "calms", "calms", "calms", "changes", "changes", "holds", "holds", "undo", "comes", "best", "swap", "odds",
        "hears", "forget", "gusts", "listen", "rate", "rate", "keep", "back", "count", "trace", "undo", "type"};

    /** Mostly as it may be, now and then just beyond, or far beyond. */
    private int number(int least, int most) {
        return switch (random.nextInt(40)) {
            case 0 -> least - 1;
            case 1 -> most + 1;
            case 2 -> random.nextInt();
            case 3 -> random.nextBoolean() ? Integer.MIN_VALUE : Integer.MAX_VALUE;
            default -> least + random.nextInt(most - least + 1);
        };
    }

    private int rodNumber() {
        return number(0, Math.max(model.count(0), 1) - 1);
    }

    private void same(String call, long want, java.util.function.LongSupplier got) {
        calls++;
        log.append(' ').append(call);
        Check.due(call, want, got);
    }

    private void tell(String text) {
        if (random.nextInt(4) != 0) one("clear");
        for (int i = 0; i < text.length(); i++) {
            int letter = text.charAt(i);
            same("type(" + letter + ")", model.type(letter), () -> x.type(letter));
        }
        same("chime()", model.chime(), () -> x.chime());
    }

    private String blanks() {
        return random.nextInt(6) == 0 ? " ".repeat(random.nextInt(3)) : "";
    }

    private String rightText() {
        int rods = 3 + random.nextInt(6);
        int dampAt = random.nextInt(rods * 2);
        int mostGap = 1 + random.nextInt(9);
        StringBuilder text = new StringBuilder();
        for (int i = 0; i < rods; i++) {
            if (i == dampAt) text.append("d").append(blanks()).append(1 + random.nextInt(3)).append(";");
            text.append("r").append(blanks()).append(random.nextInt(49)).append(" ").append(blanks())
                .append(1 + random.nextInt(mostGap)).append(" ").append(1 + random.nextInt(9)).append(blanks()).append(";");
        }
        return text.toString();
    }

    private String spoilt(String text) {
        StringBuilder out = new StringBuilder(text);
        for (int times = 1 + random.nextInt(2); times > 0 && out.length() > 0; times--) {
            int at = random.nextInt(out.length());
            char letter = "rd; 0123456789xRD-\t".charAt(random.nextInt(19));
            switch (random.nextInt(4)) {
                case 0 -> out.deleteCharAt(at);
                case 1 -> out.setCharAt(at, letter);
                case 2 -> out.insert(at, letter);
                default -> out.setLength(at);
            }
        }
        return out.toString();
    }

    private void one(String name) {
        int r = rodNumber();
        int q = rodNumber();
        int n = number(0, 20);
        int strong = number(1, 9);
        int bit = number(0, 1);
        switch (name) {
            case "type" -> { int l = number(0, 255); same("type(" + l + ")", model.type(l), () -> x.type(l)); }
            case "clear" -> same("clear()", model.clear(), () -> x.clear());
            case "rod" -> { int w = number(0, 4); same("rod(" + r + "," + w + ")", model.rod(r, w), () -> x.rod(r, w)); }
            case "side" -> same("side(" + r + ")", model.side(r), () -> x.side(r));
            case "now" -> { int w = number(0, 6); same("now(" + w + ")", model.now(w), () -> x.now(w)); }
            case "blows" -> same("blows(" + r + "," + strong + ")", model.blows(r, strong), () -> x.blows(r, strong));
            case "calms" -> same("calms()", model.calms(), () -> x.calms());
            case "changes" -> same("changes(" + r + "," + q + ")", model.changes(r, q), () -> x.changes(r, q));
            case "holds" -> same("holds(" + r + ")", model.holds(r), () -> x.holds(r));
            case "undo" -> same("undo()", model.undo(), () -> x.undo());
            case "comes" -> same("comes(" + n + "," + bit + ")", model.comes(n, bit), () -> x.comes(n, bit));
            case "best" -> same("best(" + n + "," + bit + ")", model.best(n, bit), () -> x.best(n, bit));
            case "swap" -> same("swap(" + r + "," + strong + "," + n + ")", model.swap(r, strong, n), () -> x.swap(r, strong, n));
            case "odds" -> same("odds(" + strong + "," + n + "," + r + "," + bit + ")", model.odds(strong, n, r, bit),
                () -> x.odds(strong, n, r, bit));
            case "hears" -> same("hears(" + r + "," + n + "," + bit + ")", model.hears(r, n, bit), () -> x.hears(r, n, bit));
            case "forget" -> same("forget()", model.forget(), () -> x.forget());
            case "gusts" -> same("gusts(" + bit + ")", model.gusts(bit), () -> x.gusts(bit));
            case "listen" -> same("listen(" + n + ")", model.listen(n), () -> x.listen(n));
            case "rate" -> { int k = number(0, 5); same("rate(" + k + "," + r + ")", model.rate(k, r), () -> x.rate(k, r)); }
            case "keep" -> same("keep(" + bit + ")", model.keep(bit), () -> x.keep(bit));
            case "back" -> same("back(" + bit + ")", model.back(bit), () -> x.back(bit));
            case "count" -> { int w = number(0, 3); same("count(" + w + ")", model.count(w), () -> x.count(w)); }
            case "trace" -> same("trace()", model.trace(), () -> x.trace());
            default -> throw new IllegalStateException(name);
        }
    }
}
