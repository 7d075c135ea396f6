import java.lang.reflect.Constructor;
import java.lang.reflect.Field;
import java.lang.reflect.Method;
import java.lang.reflect.Modifier;
import java.nio.charset.StandardCharsets;
import java.nio.file.Files;
import java.nio.file.Path;
import java.util.ArrayList;
import java.util.List;
import java.util.TreeSet;

/** The public face as the document has it, and nothing beside it; LanguageTests has the other rules. */
public final class RuleTests {
    private static final List<String> FACE = List.of("int type(int)", "int clear()", "int chime()", "int rod(int,int)",
        "int side(int)", "int now(int)", "int blows(int,int)", "int calms()", "int changes(int,int)", "int holds(int)",
        "int undo()", "int comes(int,int)", "int best(int,int)", "int swap(int,int,int)", "int odds(int,int,int,int)",
        "int hears(int,int,int)", "int forget()", "int gusts(int)", "int listen(int)", "int rate(int,int)",
        "int keep(int)", "int back(int)", "int count(int)", "long trace()");

    public static void main(String[] args) throws Exception {
        face();
        constants();
        signs();
        Check.end("RuleTests");
    }

    private static void face() {
        Check.holds("final", Modifier.isFinal(RodChimes.class.getModifiers()));
        TreeSet<String> found = new TreeSet<>();
        TreeSet<String> names = new TreeSet<>();
        for (Method m : RodChimes.class.getDeclaredMethods()) {
            if (!Modifier.isPrivate(m.getModifiers())) {
                List<String> types = new ArrayList<>();
                for (Class<?> type : m.getParameterTypes()) {
                    types.add(type.getName());
                }
                found.add(m.getReturnType().getName() + " " + m.getName() + "(" + String.join(",", types) + ")");
                names.add(m.getName());
                Check.holds(m + " is public", Modifier.isPublic(m.getModifiers()));
                Check.holds(m + " is not static", !Modifier.isStatic(m.getModifiers()));
            }
        }
        Check.holds("the face's methods and no others: " + found, found.equals(new TreeSet<>(FACE)));
        for (Method m : RodChimes.class.getDeclaredMethods()) {
            boolean isPrivate = Modifier.isPrivate(m.getModifiers());
            Check.holds(m.getName() + " bears no public name", !isPrivate || !names.contains(m.getName()));
        }
        Constructor<?>[] made = RodChimes.class.getDeclaredConstructors();
        Check.due("constructors", 1, made.length);
        Check.holds("public, of nothing", Modifier.isPublic(made[0].getModifiers()) && made[0].getParameterCount() == 0);
    }

    private static void constants() {
        Check.due("BAD", -1, RodChimes.BAD);
        Check.due("STATE", -2, RodChimes.STATE);
        Check.due("FULL", -3, RodChimes.FULL);
        Check.due("NONE", -9, RodChimes.NONE);
        Check.due("NO", -1000000, RodChimes.NO);
        TreeSet<String> found = new TreeSet<>();
        for (Field f : RodChimes.class.getDeclaredFields()) {
            if (!Modifier.isPrivate(f.getModifiers())) {
                found.add(f.getName());
            }
        }
        Check.holds("the face's constants and no others: " + found,
            found.equals(new TreeSet<>(List.of("BAD", "STATE", "FULL", "NONE", "NO"))));
    }

    private static void signs() throws Exception {
        String text = Files.readString(Path.of("src/main/java/RodChimes.java"), StandardCharsets.UTF_8);
        Check.holds("no other signs than ASCII", StandardCharsets.US_ASCII.newEncoder().canEncode(text));
    }
}
