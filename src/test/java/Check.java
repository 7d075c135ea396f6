import java.util.function.LongSupplier;

/** Counts and prints the answers that are not as due, and types texts. */
final class Check {
    private static int wrong = 0;
    private static int asked = 0;

    private Check() {
    }

    static void due(String what, long want, long got) {
        asked++;
        if (got != want) {
            wrong++;
            System.out.println(what + " answered " + got + ", due is " + want);
        }
    }

    /** For calls that could throw: that is wrong as well. */
    static void due(String what, long want, LongSupplier call) {
        try {
            due(what, want, call.getAsLong());
        } catch (RuntimeException | StackOverflowError thrown) {
            asked++;
            wrong++;
            System.out.println(what + " threw " + thrown + ", due is " + want);
        }
    }

    static void holds(String what, boolean so) {
        due(what + " (1: so)", 1, so ? 1 : 0);
    }

    static void type(RodChimes x, String text) {
        for (int i = 0; i < text.length(); i++) {
            x.type(text.charAt(i));
        }
    }

    /** A new object whose text was read. */
    static RodChimes chime(String text) {
        RodChimes x = new RodChimes();
        type(x, text);
        int items = x.chime();
        holds("chime() of '" + text + "' answered " + items + ": it reads", items > 0);
        return x;
    }

    static boolean isRight() {
        return wrong == 0;
    }

    static int wrong() {
        return wrong;
    }

    static void end(String name) {
        System.out.println(name + ": " + asked + " answers, " + wrong + " wrong");
        if (wrong != 0) {
            System.exit(1);
        }
    }
}
