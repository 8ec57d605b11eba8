import java.lang.reflect.InvocationTargetException;
import java.lang.reflect.Method;
import java.util.Arrays;
import java.util.Random;

/** Runs of calls, drawn by a fixed seed: PuppetStage and the plain model must answer alike. */
public final class ModelTest {
    private static final int RUNS = 600, DRAWN_CALLS = 130, CALLS_OF_AN_OBJECT = 512;
    private static final int[] EDGES = {Integer.MIN_VALUE, -301, -300, -101, -33, -32, -1, 0, 1, 5, 6, 31, 32, 300, 301, Integer.MAX_VALUE};

    /** Calls by name; one that stands here more often is drawn more often. */
    private static final String[] DRAWN = {
        "limb", "limb", "lose", "pin", "spans", "span", "span", "span", "cross", "bar", "bend", "bend", "bend", "hand",
        "hold", "hold", "hold", "hold", "hold", "hold", "drop", "pluck", "pluck", "rest", "rest", "lowest",
        "tick", "tick", "calm", "play", "play", "reach", "mirror", "mirror", "undo", "undo",
        "about", "told", "at", "barAt", "holds", "isOf", "lies", "why", "isStill", "pose", "pose", "round",
        "tangle", "meet", "count"};

    private final Random random;
    private final int seed;
    private final PuppetStage stage = new PuppetStage();
    private final PlainStage plain = new PlainStage();
    private int asked = 0;

    private ModelTest(int seed) {
        this.seed = seed;
        random = new Random(seed);
    }

    public static void main(String[] args) throws ReflectiveOperationException {
        int runs = args.length > 0 ? Integer.parseInt(args[0]) : RUNS;
        for (int seed = 0; seed < runs; seed++) {
            ModelTest test = new ModelTest(seed);
            test.build();
            test.draw();
            test.compareAll();
        }
        Due.finish();
    }

    /** Puppets to begin with, so that most calls find something. */
    private void build() throws ReflectiveOperationException {
        for (int puppet = 0; puppet < 2; puppet++) {
            int limbs = random.nextInt(3) == 0 ? from(1, 2) : from(0, 6);
            for (int k = 0; k < limbs; k++) {
                ask("limb", puppet, from(-1, k - 1), from(5, 45), from(0, 20));
            }
            ask("pin", puppet, from(-30, 30), from(40, 100));
            for (int k = 0; k < 6; k++) {
                ask("bar", puppet, k, from(-40, 40), from(-10, 10));
            }
            for (int k = from(0, 4); k > 0; k--) {
                ask("hold", puppet, 10 * from(0, 4) + from(0, 5), from(0, Math.max(0, limbs - 1)), from(0, 10), from(10, 90));
            }
            for (int k = random.nextInt(9) == 0 ? 12 : from(0, 3); k > 0; k--) {
                ask("tick", puppet, from(-20, 20), from(80, 120), from(-6, 6));
            }
        }
    }

    private void draw() throws ReflectiveOperationException {
        for (int k = 0; k < DRAWN_CALLS; k++) {
            String call = DRAWN[random.nextInt(DRAWN.length)];
            int[] a = new int[methodOf(PuppetStage.class, call).getParameterCount()];
            for (int n = 0; n < a.length; n++) {
                a[n] = random.nextInt(60) == 0 ? EDGES[random.nextInt(EDGES.length)] : n == 0 ? from(0, 1) : argument(call, n, a[0] == 1 ? 1 : 0);
            }
            ask(call, a);
        }
    }

    private int argument(String call, int n, int puppet) {
        int limb = below(plain.puppets[puppet].limbs.size());
        int hold = below(plain.puppets[puppet].holds.size());
        switch (call) {
            case "limb": return pick(n, limb - 1, from(1, 60), from(0, 20));
            case "pin": return from(-60, 60);
            case "spans": return from(-1, 6);
            case "span": return pick(n, from(0, 5), from(-31, 4), from(-4, 31));
            case "cross": case "tick": return pick(n, from(-50, 50), from(40, 140), from(-12, 12));
            case "bar": return pick(n, from(0, 5), from(-40, 40), from(-40, 40));
            case "bend": return pick(n, limb, from(-20, 20), 0);
            case "hand": return from(0, 1);
            case "hold": return n == 4 ? from(0, 120) : pick(n, 10 * from(0, 4) + from(0, 5), limb, from(0, 25));
            case "drop": return hold;
            case "pluck": return pick(n, hold, from(0, 60), 0);
            case "holds": return pick(n, hold, from(0, 8), 0);
            case "rest": case "play": return from(1, 30);
            case "reach": return pick(n, limb, from(-70, 70), from(-70, 70));
            case "at": return pick(n, limb, from(0, 25), from(0, 1));
            case "barAt": return pick(n, from(0, 5), from(0, 1), 0);
            case "told": return pick(n, limb, from(0, 6), 0);
            case "pose": return pick(n, from(0, 3), limb, 0);
            case "isOf": return pick(n, hold, from(0, 4), 0);
            case "lies": return from(0, 3);
            default: return from(0, 11);
        }
    }

    /** A number of a row, seldom the one that comes next. */
    private int below(int size) {
        return random.nextInt(12) == 0 ? size : from(0, Math.max(0, size - 1));
    }

    private static int pick(int n, int first, int second, int third) {
        return n == 1 ? first : n == 2 ? second : n == 3 ? third : 0;
    }

    private int from(int least, int greatest) {
        return least + random.nextInt(greatest - least + 1);
    }

    /** All that can be told of both puppets, as far as the object's calls go, then everything undone. */
    private void compareAll() throws ReflectiveOperationException {
        for (int what = 0; what < 4; what++) {
            ask("count", what);
        }
        ask("meet");
        for (int puppet = 0; puppet < 2; puppet++) {
            comparePuppet(puppet);
        }
        for (int k = 0; k < 6; k++) {
            ask("undo");
            for (int what = 0; what < 11; what++) {
                ask("about", k % 2, what);
            }
            ask("lies", k % 2, 0);
            ask("lies", k % 2, 1);
        }
    }

    private void comparePuppet(int puppet) throws ReflectiveOperationException {
        PlainStage.Puppet p = plain.puppets[puppet];
        for (int what = 0; what < 11; what++) {
            ask("about", puppet, what);
        }
        for (int limb = 0; limb < p.limbs.size(); limb++) {
            for (int what = 0; what < 7; what++) {
                ask("told", puppet, limb, what);
            }
            for (int tick = 0; tick < p.poses.size(); tick++) {
                ask("pose", puppet, tick, limb);
            }
        }
        for (int hold = 0; hold < p.holds.size(); hold++) {
            for (int what = 0; what < 9; what++) {
                ask("holds", puppet, hold, what);
            }
        }
        for (int what = 0; what < 4; what++) {
            ask("lies", puppet, what);
        }
        ask("why", puppet);
        ask("isStill", puppet);
        ask("tangle", puppet);
        ask("round", puppet);
    }

    private void ask(String call, int... a) throws ReflectiveOperationException {
        asked++;
        if (asked > CALLS_OF_AN_OBJECT) {
            return;
        }
        Object[] boxed = Arrays.stream(a).boxed().toArray();
        long got = answer(PuppetStage.class, stage, call, boxed);
        long want = answer(PlainStage.class, plain, call, boxed);
        Due.due("seed " + seed + ", call " + asked + ": " + call + Arrays.toString(a), got, want);
    }

    private static long answer(Class<?> kind, Object object, String call, Object[] a) throws ReflectiveOperationException {
        try {
            return (Long) methodOf(kind, call).invoke(object, a);
        } catch (InvocationTargetException thrown) {
            throw new IllegalStateException(call + Arrays.toString(a), thrown.getCause());
        }
    }

    private static Method methodOf(Class<?> kind, String call) {
        for (Method m : kind.getDeclaredMethods()) {
            if (m.getName().equals(call) && m.getReturnType() == long.class) {
                return m;
            }
        }
        throw new IllegalStateException("no method " + call);
    }
}
