import java.io.IOException;
import java.lang.reflect.Constructor;
import java.lang.reflect.Field;
import java.lang.reflect.Method;
import java.lang.reflect.Modifier;
import java.nio.file.Files;
import java.nio.file.Path;
import java.util.Random;
import java.util.TreeSet;

/** The public face, what LANGUAGE.md forbids in so many words, and calls with any numbers whatever. */
public final class FaceTest {
    private static final String SOURCE = "src/main/java/PuppetStage.java";
    private static final String[] METHODS = {
        "limb 4", "lose 1", "pin 3", "spans 2", "span 4", "cross 4", "bar 4", "bend 3", "hand 2", "about 2", "told 3", "at 4", "barAt 3",
        "hold 5", "drop 2", "pluck 3", "holds 3", "isOf 3", "lies 2", "why 1", "rest 2", "isStill 1", "lowest 1",
        "tick 4", "calm 1", "play 2", "pose 3", "round 1", "reach 4", "tangle 1", "meet 0", "mirror 1", "undo 0", "count 1"};
    private static final String[] FORBIDDEN = {
        "throw", "throws", "try", "catch", "synchronized", "assert", "import", "package", "protected", "native", "volatile",
        "Object", "Exception", "equals", "hashCode", "toString", "Random", "System.currentTimeMillis", "System.nanoTime", "Thread", "->", "::"};

    public static void main(String[] args) throws ReflectiveOperationException, IOException {
        constants();
        methods();
        otherMembers();
        words();
        onlyConstructorsMake();
        fullRows();
        anyNumbers();
        Due.finish();
    }

    private static void constants() {
        Due.due("BAD", PuppetStage.BAD, -9000000000000000001L);
        Due.due("NO", PuppetStage.NO, -9000000000000000002L);
        Due.due("FULL", PuppetStage.FULL, -9000000000000000003L);
        Due.due("NOTHING", PuppetStage.NOTHING, -9000000000000000011L);
        Due.due("INDEX", PuppetStage.INDEX, -9000000000000000013L);
        Due.due("NONE", PuppetStage.NONE, -9000000000000000005L);
    }

    private static void methods() {
        TreeSet<String> found = new TreeSet<>();
        for (Method m : PuppetStage.class.getDeclaredMethods()) {
            if (!Modifier.isPrivate(m.getModifiers())) {
                Due.isTrue(m + " is public", Modifier.isPublic(m.getModifiers()) && !Modifier.isStatic(m.getModifiers()));
                Due.isTrue(m + " answers a long", m.getReturnType() == long.class);
                for (Class<?> type : m.getParameterTypes()) {
                    Due.isTrue(m + " takes ints", type == int.class);
                }
                found.add(m.getName() + " " + m.getParameterCount());
            }
        }
        Due.isTrue("methods are " + found, found.equals(new TreeSet<>(java.util.List.of(METHODS))));
        Due.isTrue("the class is public and final", (PuppetStage.class.getModifiers() & (Modifier.PUBLIC | Modifier.FINAL)) == (Modifier.PUBLIC | Modifier.FINAL));
        Constructor<?>[] made = PuppetStage.class.getDeclaredConstructors();
        Due.isTrue("one constructor", made.length == 1 && made[0].getParameterCount() == 0 && Modifier.isPublic(made[0].getModifiers()));
    }

    private static void otherMembers() {
        TreeSet<String> names = new TreeSet<>();
        for (String m : METHODS) {
            names.add(m.substring(0, m.indexOf(' ')));
        }
        int constants = 0;
        for (Field f : PuppetStage.class.getDeclaredFields()) {
            constants += Modifier.isPublic(f.getModifiers()) ? 1 : 0;
            Due.isTrue(f + " is private or a constant of the face", Modifier.isPrivate(f.getModifiers())
                    || Modifier.isPublic(f.getModifiers()) && Modifier.isStatic(f.getModifiers()) && f.getType() == long.class);
        }
        Due.due("constants", constants, 6);
        Due.isTrue("some twelve classes", PuppetStage.class.getDeclaredClasses().length <= 11);
        for (Class<?> inside : PuppetStage.class.getDeclaredClasses()) {
            Due.isTrue(inside + " is private and static", Modifier.isPrivate(inside.getModifiers()) && Modifier.isStatic(inside.getModifiers()));
            for (Method m : inside.getDeclaredMethods()) {
                Due.isTrue(m + " has a name of its own", !names.contains(m.getName()));
                Due.isTrue(m + " takes seven at most", m.getParameterCount() <= 7);
            }
            for (Field f : inside.getDeclaredFields()) {
                Due.isTrue(f + " is not static", !Modifier.isStatic(f.getModifiers()));
            }
        }
        for (Method m : PuppetStage.class.getDeclaredMethods()) {
            Due.isTrue(m + " has a name of its own", Modifier.isPublic(m.getModifiers()) || !names.contains(m.getName()));
        }
    }

    private static String codeWithoutComments() throws IOException {
        return Files.readString(Path.of(SOURCE)).replaceAll("(?s)/\\*.*?\\*/", " ").replaceAll("//[^\n]*", " ");
    }

    private static void words() throws IOException {
        String code = codeWithoutComments();
        for (String word : FORBIDDEN) {
            boolean found = Character.isLetter(word.charAt(0)) ? code.matches("(?s).*\\b" + word + "\\b.*") : code.contains(word);
            Due.isTrue("no " + word, !found);
        }
        Due.isTrue("signs of 1 to 127 alone", code.chars().allMatch(c -> c > 0 && c < 128));
    }

    /** All calls of a run live in one room, so what is made is made with the stage: by final fields, and for the kept changes. */
    private static void onlyConstructorsMake() throws IOException {
        int made = 0;
        for (String line : codeWithoutComments().split("\n")) {
            if (line.matches(".*\\b(new|clone|copyOf|copyOfRange|ArrayList|StringBuilder|String)\\b.*")) {
                made++;
                Due.isTrue("a call makes nothing: " + line, line.matches(" +(private )?final \\S+ \\w+ = new \\w+(\\(\\)|\\[[^\\]]+\\]);")
                        || line.matches(" +(firsts|seconds)\\[k\\] = new Puppet\\(\\);"));
            }
        }
        Due.isTrue("what is made was found", made > 0);
    }

    /** Both puppets have as much of all as they may: the last of every row is in use. */
    private static void fullRows() {
        PuppetStage x = new PuppetStage();
        for (int puppet = 0; puppet < 2; puppet++) {
            x.spans(puppet, 6);
            for (int k = 0; k < 6; k++) {
                Due.due("limb", x.limb(puppet, k - 1, 100, 50), k);
                x.span(puppet, k, -31, 31);
                x.bar(puppet, k, 100 - 30 * k, k);
            }
            for (int k = 0; k < 12; k++) {
                Due.due("hold", x.hold(puppet, 10 * (k % 4) + k % 6, k % 6, 100, 20 * k), k);
                Due.due("tick", x.tick(puppet, 10 * k, 300, k), k + 1);
            }
            x.pin(puppet, 300 * puppet, -300);
            Due.isTrue("play", x.play(puppet, 100) > 0);
            Due.due("poses", x.about(puppet, 7), 12);
            Due.isTrue("the last pose", x.pose(puppet, 11, 5) == x.told(puppet, 5, 3));
            Due.due("round", x.round(puppet), 0);
            Due.isTrue("rest", x.rest(puppet, 300) >= 0);
            Due.isTrue("reach", x.reach(puppet, 5, 0, 300) >= 0);
            x.tangle(puppet);
            Due.isTrue("why", x.why(puppet) >= -9000000000000000005L);
            Due.due("mirror", x.mirror(puppet), 0);
            Due.due("taut and slack", x.holds(puppet, 11, 0), 3);
        }
        x.meet();
        Due.due("drop the first", x.drop(1, 0), 0);
        Due.due("the last has come ahead", x.holds(1, 10, 4), 220);
        Due.due("lose", x.lose(1), 100);
        Due.due("holds", x.about(1, 1), 9);
        Due.due("limbs", x.count(0), 11);
    }

    /** Whatever numbers come, in whatever order, nothing is thrown. */
    private static void anyNumbers() throws ReflectiveOperationException {
        Random random = new Random(1);
        Method[] all = PuppetStage.class.getMethods();
        int[] edges = {Integer.MIN_VALUE, Integer.MIN_VALUE + 1, -301, -101, -33, -1, 0, 0, 0, 1, 1, 2, 5, 6, 12, 32, 50, 101, 301, 501, Integer.MAX_VALUE - 1, Integer.MAX_VALUE};
        for (int run = 0; run < 200; run++) {
            PuppetStage x = new PuppetStage();
            for (int k = 0; k < 512; k++) {
                Method m = all[random.nextInt(all.length)];
                if (m.getDeclaringClass() != PuppetStage.class) {
                    continue;
                }
                Object[] a = new Object[m.getParameterCount()];
                for (int n = 0; n < a.length; n++) {
                    a[n] = edges[random.nextInt(edges.length)];
                }
                m.invoke(x, a);
            }
        }
    }
}
