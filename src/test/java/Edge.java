import java.util.HashMap;
import java.util.Map;

/** Asks about edges: what is taken last and refused first, and that what is refused changes nothing. */
final class Edge {
    static final int LOW = Integer.MIN_VALUE, HIGH = Integer.MAX_VALUE;

    /** A new object. */
    static final Tell.Scene NEW = x -> { };

    /** Both puppets have some of everything, with poses, and as many changes are kept as may be. */
    static final Tell.Scene LIVELY = x -> {
        for (int p = 0; p < 2; p++) {
            furnish(x, p);
        }
        x.bend(0, 2, 7);
        x.hand(1, 1);
        x.rest(0, 4);
        x.cross(1, -5, 105, 3);
        x.bar(0, 3, 9, 8);
    };

    private static final Map<Tell.Scene, String> TOLD = new HashMap<>();

    interface Call {
        long on(PuppetStage x);
    }

    interface NumberCall {
        long on(PuppetStage x, int n);
    }

    private Edge() {
    }

    private static void furnish(PuppetStage x, int p) {
        x.pin(p, 5 - 40 * p, 60);
        x.limb(p, -1, 30, 4);
        x.limb(p, 0, 25, 3);
        x.limb(p, 1, 12, 2);
        x.spans(p, 4);
        x.span(p, 0, -20, 20);
        x.span(p, 1, -15, 15);
        x.span(p, 2, -31, 31);
        x.span(p, 3, -9, 9);
        x.bar(p, 0, 20, 0);
        x.bar(p, 1, -20, 5);
        x.hold(p, 0, 2, 12, 70);
        x.hold(p, 11, 1, 10, 130);
        x.hold(p, 20, 0, 30, 60);
        x.hold(p, 31, 1, 25, 80);
        x.hold(p, 40, 2, 12, 0);
        x.pluck(p, 2, 5);
        x.tick(p, 10, 120, 4);
        x.tick(p, -10, 110, -4);
        x.tick(p, 3, 110, 2);
        x.play(p, 20);
    }

    /** Whether an answer is a refusal; NONE is none. */
    static boolean isRefusal(long answer) {
        return answer == Due.BAD || answer == Due.NO || answer == Due.FULL || answer == Due.NOTHING || answer == Due.INDEX;
    }

    /** The call is refused with that answer, and no later call shows that it was made. */
    static void refused(String what, Tell.Scene scene, Call call, long want) {
        Due.due(what, call.on(Tell.made(scene)), want);
        unseen(what, scene, call);
    }

    static void unseen(String what, Tell.Scene scene, Call call) {
        String before = TOLD.computeIfAbsent(scene, Tell::whole);
        String after = Tell.whole(x -> {
            scene.set(x);
            call.on(x);
        });
        Due.isTrue(what + " changes nothing", after.equals(before));
    }

    static void taken(String what, Tell.Scene scene, Call call, long want) {
        Due.due(what, call.on(Tell.made(scene)), want);
    }

    /** The numbers from least to greatest are taken, at both ends, and none beyond. */
    static void bounds(String what, Tell.Scene scene, NumberCall call, int least, int greatest, long refusal) {
        for (int n : new int[] {least, greatest}) {
            Due.isTrue(what + " " + n + " is taken", !isRefusal(call.on(Tell.made(scene), n)));
        }
        for (int n : new int[] {LOW, least - 1, greatest + 1, HIGH}) {
            refused(what + " " + n, scene, x -> call.on(x, n), refusal);
        }
    }

    /** As bounds(), and the number that was taken is the one that is told thereafter. */
    static void kept(String what, Tell.Scene scene, NumberCall call, Call told, int least, int greatest) {
        bounds(what, scene, call, least, greatest, Due.BAD);
        for (int n : new int[] {least, greatest}) {
            PuppetStage x = Tell.made(scene);
            call.on(x, n);
            Due.due(what + " " + n + " is told", told.on(x), n);
        }
    }

    /** Only 0 and 1 are puppets. */
    static void puppets(String what, Tell.Scene scene, NumberCall call) {
        bounds(what + " puppet", scene, call, 0, 1, Due.BAD);
    }
}
