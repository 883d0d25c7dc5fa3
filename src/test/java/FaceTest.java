import java.lang.reflect.Constructor;
import java.lang.reflect.Field;
import java.lang.reflect.Method;
import java.lang.reflect.Modifier;
import java.nio.charset.StandardCharsets;
import java.nio.file.Files;
import java.nio.file.Path;
import java.util.Arrays;
import java.util.Set;
import java.util.TreeSet;

/** The public face is that of the document, and the source keeps to what of LANGUAGE.md can be seen by words. */
final class FaceTest {
    private static final String FACE = "int feed(5) boolean end(1) int valley(0) int fault(0) int person(2) int food(2) "
            + "int meeting(2) int debt(2) int now(1) int eat(2) int ail(1) int mend(1) int meet(1) int hours(1) "
            + "int undo(0) int on(1) int common(0) int table(1) int plate(1) int feast(0) int ate(0) int surely(0) "
            + "int ask(0) int twins(2) int late(1) int share(2) int clash(1) int keeps(1) int later(2) int paid(1) "
            + "int drawn(2) int odds(3) int book(1) int told(1) int sentence(0) int said(1) boolean image(1) "
            + "boolean restore(1) int count(1)";
    private static final String[] WORDS = {"->", "::", "finally", "synchronized", "assert ", "catch", "instanceof",
        "System.out", "String.format", "Exact(", "new Random", "currentTimeMillis", "nanoTime", "Thread", "java.util.*",
        "protected ", "static {"};

    public static void main(String[] args) throws Exception {
        methods();
        members();
        statics(HungerDays.class);
        for (Class<?> c : HungerDays.class.getDeclaredClasses()) {
            statics(c);
        }
        source();
        Kit.end();
    }

    private static void methods() {
        Set<String> want = new TreeSet<>(Arrays.asList(FACE.replaceAll("(int|boolean) (\\w+)", "$1_$2").split(" ")));
        Set<String> got = new TreeSet<>();
        for (Method m : HungerDays.class.getDeclaredMethods()) {
            if (Modifier.isPublic(m.getModifiers())) {
                got.add(m.getReturnType() + "_" + m.getName() + "(" + m.getParameterCount() + ")");
                for (Class<?> c : m.getParameterTypes()) {
                    Kit.due("parameters of " + m.getName() + " are int", true, c == int.class);
                }
            } else {
                Kit.due(m.getName() + " is private", true, Modifier.isPrivate(m.getModifiers()));
            }
        }
        Kit.due("methods " + want + " are " + got, true, want.equals(got));
    }

    private static void members() {
        Kit.due("final", true, Modifier.isFinal(HungerDays.class.getModifiers()));
        for (Field f : HungerDays.class.getDeclaredFields()) {
            Kit.due(f.getName() + " is private", !f.getName().equals("NONE"), Modifier.isPrivate(f.getModifiers()));
        }
        for (Constructor<?> c : HungerDays.class.getDeclaredConstructors()) {
            Kit.due("constructor without parameters", 0, c.getParameterCount());
        }
        for (Class<?> c : HungerDays.class.getDeclaredClasses()) {
            Kit.due(c.getName() + " is static", true, Modifier.isStatic(c.getModifiers()));
            Kit.due(c.getName() + " is not public", false, Modifier.isPublic(c.getModifiers()));
            Kit.due(c.getName() + " has some twenty fields", true, ownFields(c) <= 20);
            for (Method m : c.getDeclaredMethods()) {
                boolean like = Arrays.stream(HungerDays.class.getMethods()).anyMatch(f -> f.getName().equals(m.getName()));
                Kit.due(c.getName() + "." + m.getName() + " bears a name of the face", false, like);
            }
        }
        Kit.due("some twenty fields", true, ownFields(HungerDays.class) <= 20);
        Kit.due("some twelve classes", true, HungerDays.class.getDeclaredClasses().length < 12);
    }

    private static long ownFields(Class<?> c) {
        return Arrays.stream(c.getDeclaredFields()).filter(f -> !Modifier.isStatic(f.getModifiers())).count();
    }

    /** LANGUAGE.md's rules 5 and 11: static fields are final, a method takes at most seven parameters. */
    private static void statics(Class<?> c) {
        for (Field f : c.getDeclaredFields()) {
            boolean kept = !Modifier.isStatic(f.getModifiers()) || Modifier.isFinal(f.getModifiers());
            Kit.due(c.getName() + "." + f.getName() + " is final or the object's own", true, kept);
        }
        for (Method m : c.getDeclaredMethods()) {
            Kit.due(c.getName() + "." + m.getName() + " has few parameters", true, m.getParameterCount() <= 7);
        }
    }

    /** Rule 11: a member of the class ends at most some sixty lines behind its beginning; a nested one likewise. */
    private static void lengths(String text) {
        int begun = 0;
        int number = 0;
        for (String line : text.split("\n")) {
            number++;
            if (line.matches(" {4}( {4})?[a-z].*\\) (throws \\w+ )?\\{")) {
                begun = number;
            } else if (line.matches(" {4}( {4})?\\}") && begun > 0) {
                Kit.due("the lines of what begins in line " + begun + " are few", true, number - begun < 60);
                begun = 0;
            }
        }
    }

    private static void source() throws Exception {
        String text = Files.readString(Path.of("src/main/java/HungerDays.java"), StandardCharsets.ISO_8859_1);
        for (String word : WORDS) {
            Kit.due("the source has " + word, false, text.contains(word));
        }
        for (char c : text.toCharArray()) {
            if (c > 126) {
                Kit.due("signs of the source", 0, c);
            }
        }
        lengths(text);
        int imports = text.split("\nimport |^import ", -1).length - 1;
        Kit.due("imports", 1, imports);
    }
}
