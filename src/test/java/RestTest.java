/** Promises 22 to 24: rest, isStill, lowest. */
public final class RestTest {
    private static final long BAD = Due.BAD, NO = Due.NO;

    public static void main(String[] args) {
        wrongInputs();
        firstChange();
        pairChange();
        pairWithinSpans();
        spansBound();
        noWrap();
        excessAheadOfDepth();
        stillChangesNothing();
        lowest();
        lowestOfSeveral();
        lowestWithinSpans();
        Due.finish();
    }

    private static void due(String call, long got, long want) {
        Due.due(call, got, want);
    }

    private static void wrongInputs() {
        PuppetStage x = new PuppetStage();
        due("rest puppet", x.rest(2, 1), BAD);
        due("rest puppet", x.rest(-1, 1), BAD);
        due("rest 0", x.rest(0, 0), BAD);
        due("rest -1", x.rest(0, -1), BAD);
        due("rest 301", x.rest(0, 301), BAD);
        due("rest low", x.rest(0, Integer.MIN_VALUE), BAD);
        due("isStill puppet", x.isStill(2), BAD);
        due("lowest puppet", x.lowest(-1), BAD);
        due("lowest without limbs", x.lowest(0), NO);
        due("nothing changed", x.count(2), 0);
        due("rest without limbs", x.rest(0, 300), 0);
        due("is a change", x.count(2), 1);
        due("still without limbs", x.isStill(0), 1);
    }

    /** A limb straight up is as high to the left as to the right: the hand says which way it falls. */
    private static void firstChange() {
        PuppetStage x = new PuppetStage();
        x.limb(0, -1, 10, 1);
        x.limb(0, 0, 10, 1);
        x.spans(0, 2);
        x.bend(0, 0, -31);
        due("up first, toward down", x.rest(0, 1), 1);
        due("limb 0 went", x.told(0, 0, 3), -30);
        due("limb 1 did not", x.told(0, 1, 3), 0);
        PuppetStage y = new PuppetStage();
        y.limb(0, -1, 10, 0);
        y.limb(0, 0, 10, 1);
        y.bend(0, 0, 16);
        y.bend(0, 1, 16);
        due("the end is straight up", y.told(0, 1, 4), 32);
        due("rest", y.rest(0, 1), 1);
        due("limb 0 down: up would lift it", y.told(0, 0, 3), 15);
        PuppetStage z = new PuppetStage();
        z.limb(0, -1, 10, 0);
        z.limb(0, -1, 10, 1);
        z.cross(0, 0, 10, 0);
        z.hold(0, 40, 0, 0, 0);
        due("no weight, no change", z.rest(0, 5), 0);
        z.bend(0, 1, -32);
        z.hand(0, 1);
        due("limb 1 up: down is out of its span", z.rest(0, 1), 1);
        due("limb 1", z.told(0, 1, 3), -31);
        PuppetStage w = new PuppetStage();
        w.limb(0, -1, 10, 0);
        w.limb(0, 0, 10, 1);
        w.bend(0, 0, 31);
        w.bend(0, 1, 1);
        due("straight up", w.told(0, 1, 4), 32);
        w.hand(0, 1);
        due("rest", w.rest(0, 1), 1);
        due("limb 0 goes down first", w.told(0, 0, 3), 30);
        w.undo();
        w.hand(0, 0);
        w.spans(0, 1);
        w.span(0, 0, 31, 31);
        due("rest", w.rest(0, 1), 1);
        due("limb 1 goes up first", w.told(0, 1, 3), 2);
        w.undo();
        w.hand(0, 1);
        due("rest", w.rest(0, 1), 1);
        due("limb 1 goes down first", w.told(0, 1, 3), 0);
    }

    /** Where no change of one limb is better, two limbs change at once: hand 0 and 1 find different ones first. */
    private static void pairChange() {
        int[][] string = {{0, 1, 5, 70}};
        twoStep(new int[][] {{20, 1}, {5, 0}, {10, 2}}, 10, string, new int[] {-28, -16, -20}, new int[] {1, 1, 0}, new int[] {-1, -1, 0});
        int[][] rod = {{30, 1, 5, 80}};
        twoStep(new int[][] {{10, 2}, {5, 0}}, 30, rod, new int[] {11, -9}, new int[] {-1, 1}, new int[] {-1, -1});
        int[][] both = {{0, 1, 5, 30}, {30, 0, 5, 70}};
        twoStep(new int[][] {{5, 2}, {5, 1}}, 30, both, new int[] {28, 4}, new int[] {1, -1}, new int[] {-1, 1});
        int[][] atEnd = {{0, 2, 5, 70}};
        twoStep(new int[][] {{5, 0}, {5, 0}, {5, 2}}, 20, atEnd, new int[] {18, 14, 6}, new int[] {0, 1, -1}, new int[] {0, -1, 1});
        int[][] farOff = {{0, 2, 10, 60}};
        twoStep(new int[][] {{20, 2}, {15, 1}, {10, 0}}, 0, farOff, new int[] {-31, -7, 13}, new int[] {1, 0, -1}, new int[] {-1, 0, -1});
    }

    /** Limbs in a chain (length, weight), holds (kindAndBar, limb, spot, length): one rest with either hand. */
    private static void twoStep(int[][] limbs, int pinY, int[][] holds, int[] bends, int[] stepsUp, int[] stepsDown) {
        PuppetStage x = chain(limbs, pinY, holds, bends);
        for (int hand = 0; hand < 2; hand++) {
            x.hand(0, hand);
            due("a change of two", x.isStill(0), 0);
            due("rest", x.rest(0, 1), 1);
            int[] steps = hand == 0 ? stepsUp : stepsDown;
            for (int k = 0; k < bends.length; k++) {
                due("hand " + hand + ", bend " + k, x.told(0, k, 3), bends[k] + steps[k]);
            }
            x.undo();
        }
    }

    private static PuppetStage chain(int[][] limbs, int pinY, int[][] holds, int[] bends) {
        PuppetStage x = new PuppetStage();
        for (int k = 0; k < limbs.length; k++) {
            x.limb(0, k - 1, limbs[k][0], limbs[k][1]);
        }
        x.pin(0, 0, pinY);
        for (int[] h : holds) {
            x.hold(0, h[0], h[1], h[2], h[3]);
        }
        for (int k = 0; k < bends.length; k++) {
            x.bend(0, k, bends[k]);
        }
        return x;
    }

    /** Only both up and both down are better here; the span of either limb may shut out either. */
    private static void pairWithinSpans() {
        for (int limb = 0; limb < 2; limb++) {
            PuppetStage x = chain(new int[][] {{20, 1}, {5, 0}, {10, 2}}, 10, new int[][] {{0, 1, 5, 70}}, new int[] {-28, -16, -20});
            int bend = limb == 0 ? -28 : -16;
            x.spans(0, 2);
            due("not up", x.span(0, limb, -32, bend), 0);
            due("rest", x.rest(0, 1), 1);
            due("limb 0 down", x.told(0, 0, 3), -29);
            due("limb 1 down", x.told(0, 1, 3), -17);
            x.undo();
            due("not down", x.span(0, limb, bend, 31), 0);
            x.hand(0, 1);
            due("rest", x.rest(0, 1), 1);
            due("limb 0 up", x.told(0, 0, 3), -27);
            due("limb 1 up", x.told(0, 1, 3), -15);
            x.undo();
            due("neither", x.span(0, limb, bend, bend), 0);
            due("still", x.isStill(0), 1);
            due("rest", x.rest(0, 9), 0);
        }
    }

    private static void spansBound() {
        PuppetStage x = new PuppetStage();
        x.limb(0, -1, 10, 1);
        x.bend(0, 0, 12);
        x.spans(0, 1);
        x.span(0, 0, 5, 20);
        due("rest to the least of the span", x.rest(0, 300), 7);
        due("bend", x.told(0, 0, 3), 5);
        due("still", x.isStill(0), 1);
        due("lowest too", x.lowest(0), 0);
        x.spans(0, -1);
        due("not still", x.isStill(0), 0);
        due("rest at most", x.rest(0, 2), 2);
        due("rest the rest", x.rest(0, 300), 3);
        due("changes of rests", x.count(3), 12);
    }

    /** Bends do not come round from 31 to -32. */
    private static void noWrap() {
        PuppetStage x = new PuppetStage();
        x.limb(0, -1, 10, 0);
        x.cross(0, -10, 10, 0);
        x.hold(0, 0, 0, 10, 0);
        x.bend(0, 0, 31);
        long far = x.holds(0, 0, 6);
        x.bend(0, 0, -32);
        Due.isTrue("the way round would be better", x.holds(0, 0, 6) < far);
        x.bend(0, 0, 31);
        x.rest(0, 300);
        Due.isTrue("never round", x.told(0, 0, 3) >= 0);
    }

    private static void excessAheadOfDepth() {
        PuppetStage x = new PuppetStage();
        x.limb(0, -1, 10, 50);
        x.hold(0, 40, 0, 10, 0);
        due("hangs below the ground", x.lies(0, 0), 10240);
        due("is lifted up", x.rest(0, 300), 16);
        due("to the right, as up comes first", x.told(0, 0, 3), 16);
        due("lawful", x.lies(0, 0), 0);
        x.bend(0, 0, 0);
        x.hand(0, 1);
        due("is lifted", x.rest(0, 300), 16);
        due("to the left with hand 1", x.told(0, 0, 3), -16);
    }

    private static void stillChangesNothing() {
        PuppetStage x = new PuppetStage();
        x.limb(0, -1, 10, 1);
        x.limb(0, 0, 10, 1);
        x.bend(0, 0, 9);
        x.bend(0, 1, 9);
        long changes = x.count(2);
        due("not still", x.isStill(0), 0);
        due("bend 0", x.told(0, 0, 3), 9);
        due("bend 1", x.told(0, 1, 3), 9);
        due("changes", x.count(2), changes);
        due("no changes of rests", x.count(3), 0);
    }

    private static void lowest() {
        PuppetStage x = new PuppetStage();
        x.limb(0, -1, 10, 1);
        x.bend(0, 0, -20);
        due("lowest of one", x.lowest(0), 1);
        due("hangs", x.told(0, 0, 3), 0);
        due("lowest again", x.lowest(0), 0);
        x.limb(0, 0, 10, 1);
        x.bend(0, 0, 5);
        x.bend(0, 1, 5);
        due("lowest of two", x.lowest(0), 2);
        x.bend(0, 1, 5);
        due("one differs", x.lowest(0), 1);
        due("bend 0", x.told(0, 0, 3), 0);
        due("bend 1", x.told(0, 1, 3), 0);
        x.limb(0, 0, 10, 1);
        due("lowest of three", x.lowest(0), NO);
        due("undo the limb", x.undo(), 4);
        due("undo lowest", x.undo(), 3);
        due("bend 1 is back", x.told(0, 1, 3), 5);
        due("it is no rest", x.count(3), 0);
    }

    private static void lowestOfSeveral() {
        PuppetStage x = new PuppetStage();
        x.limb(0, -1, 10, 0);
        x.limb(0, 0, 10, 0);
        due("all alike: the least", x.lowest(0), 2);
        due("bend 0", x.told(0, 0, 3), -32);
        due("bend 1", x.told(0, 1, 3), -32);
        PuppetStage y = new PuppetStage();
        y.limb(0, -1, 10, 50);
        y.hold(0, 40, 0, 10, 0);
        due("left and right alike: the least", y.lowest(0), 1);
        due("bend", y.told(0, 0, 3), -16);
        PuppetStage z = new PuppetStage();
        z.limb(0, -1, 10, 0);
        z.limb(0, 0, 10, 1);
        z.spans(0, 1);
        z.span(0, 0, -8, 31);
        due("an end that hangs", z.lowest(0), 0);
    }

    private static void lowestWithinSpans() {
        PuppetStage x = new PuppetStage();
        x.limb(0, -1, 10, 1);
        x.limb(0, -1, 10, 1);
        x.bend(0, 0, 10);
        x.bend(0, 1, -10);
        x.spans(0, 2);
        x.span(0, 0, 3, 31);
        x.span(0, 1, -32, -4);
        due("lowest", x.lowest(0), 2);
        due("bend 0", x.told(0, 0, 3), 3);
        due("bend 1", x.told(0, 1, 3), -4);
        x.spans(0, 2);
        x.bend(0, 0, -10);
        x.bend(0, 1, 10);
        x.span(0, 0, -32, -3);
        x.span(0, 1, 4, 31);
        due("lowest", x.lowest(0), 2);
        due("bend 0", x.told(0, 0, 3), -3);
        due("bend 1", x.told(0, 1, 3), 4);
    }
}
