/** Promises 22 to 24: every sentence that names a boundary case. */
public final class EdgesOfRestTest {
    private static final long BAD = Due.BAD, NO = Due.NO;

    /** A chain that needs 421 changes to come to rest. */
    private static final Tell.Scene LONG_WAY = x -> {
        int[][] limbs = {{52, 28, -26}, {92, 14, -30}, {88, 3, 17}, {63, 0, 17}, {62, 5, -22}, {88, 8, 31}};
        for (int k = 0; k < 6; k++) {
            x.limb(0, k - 1, limbs[k][0], limbs[k][1]);
            x.bend(0, k, limbs[k][2]);
        }
        x.hand(0, 1);
    };

    public static void main(String[] args) {
        restNumbers();
        restAtMost();
        restOfNothing();
        restStopsAtTheGreatestBend();
        restStopsAtTheLeastBend();
        restStopsAtItsSpan();
        restOfTwoStopsAtTheEnds();
        restGoesByOneStep();
        restLooksAtEveryHold();
        stillNumbers();
        stillOnlyWhereNoChangeIsBetter();
        stillChangesNothing();
        lowestNumbers();
        lowestAtTheEnds();
        lowestOfTwoAtTheEnds();
        lowestWithinItsSpan();
        lowestOfSeveral();
        lowestCounts();
        Due.finish();
    }

    private static void due(String call, long got, long want) {
        Due.due(call, got, want);
    }

    /** A limb of 10 units without weight, whose end is pulled to the place where it would be in a direction. */
    private static PuppetStage pulledTo(int direction, int bend) {
        PuppetStage x = new PuppetStage();
        x.limb(0, -1, 10, 0);
        x.bend(0, 0, bend);
        x.cross(0, 0, 0, tiltFor(direction));
        x.bar(0, 0, 10, 0);
        x.hold(0, 0, 0, 10, 0);
        return x;
    }

    /** The tilt with which a bar's a goes in that direction. */
    private static int tiltFor(int direction) {
        return Math.floorMod(direction - 16 + 32, 64) - 32;
    }

    /** Promise 22: 'n times (1 .. 300)'. */
    private static void restNumbers() {
        Edge.puppets("rest", Edge.LIVELY, (x, n) -> x.rest(n, 5));
        Edge.bounds("rest", Edge.LIVELY, (x, n) -> x.rest(0, n), 1, 300, BAD);
        Edge.bounds("rest of a long way", LONG_WAY, (x, n) -> x.rest(0, n), 1, 300, BAD);
    }

    /** 'n times at most: how many changes were done'. */
    private static void restAtMost() {
        for (int n : new int[] {1, 2, 60, 100, 299, 300}) {
            Edge.taken("rest " + n, LONG_WAY, x -> x.rest(0, n), n);
        }
        PuppetStage x = Tell.made(LONG_WAY);
        due("rest", x.rest(0, 300), 300);
        due("not at rest", x.isStill(0), 0);
        due("rest", x.rest(0, 120), 120);
        due("one is left", x.isStill(0), 0);
        due("rest", x.rest(0, 300), 1);
        due("at rest", x.isStill(0), 1);
        due("none is left", x.rest(0, 300), 0);
        due("in all", x.count(3), 421);
    }

    /** Without limbs, or at rest, there is no change of bends; the call is one that is kept all the same. */
    private static void restOfNothing() {
        PuppetStage x = new PuppetStage();
        due("rest", x.rest(1, 1), 0);
        due("rest", x.rest(1, 300), 0);
        due("kept", x.count(2), 2);
        due("in all", x.count(3), 0);
        x.limb(0, -1, 5, 5);
        due("hangs", x.rest(0, 1), 0);
        due("kept", x.count(2), 4);
    }

    /** A bend may be -32 .. 31: from 31 there is no way up, though 32 would be better. */
    private static void restStopsAtTheGreatestBend() {
        PuppetStage x = pulledTo(33, 29);
        due("rest", x.rest(0, 300), 2);
        due("bend", x.told(0, 0, 3), 31);
        due("still", x.isStill(0), 1);
        PuppetStage y = pulledTo(33, -32);
        due("rest from the other side", y.rest(0, 300), 1);
        due("bend", y.told(0, 0, 3), -31);
    }

    /** From -32 there is no way down, though 31 would be better. */
    private static void restStopsAtTheLeastBend() {
        PuppetStage x = pulledTo(31, -30);
        due("rest", x.rest(0, 300), 2);
        due("bend", x.told(0, 0, 3), -32);
        due("still", x.isStill(0), 1);
        PuppetStage y = pulledTo(31, 30);
        due("rest from the other side", y.rest(0, 300), 1);
        due("bend", y.told(0, 0, 3), 31);
    }

    /** '(within SPANS)': the ends of a pair are reached, and not passed. */
    private static void restStopsAtItsSpan() {
        PuppetStage x = pulledTo(20, 0);
        x.spans(0, 1);
        x.span(0, 0, -3, 7);
        due("rest", x.rest(0, 300), 7);
        due("bend", x.told(0, 0, 3), 7);
        due("still", x.isStill(0), 1);
        PuppetStage y = pulledTo(-20, 0);
        y.spans(0, 1);
        y.span(0, 0, -3, 7);
        due("rest", y.rest(0, 300), 3);
        due("bend", y.told(0, 0, 3), -3);
        PuppetStage z = pulledTo(20, 0);
        z.spans(0, 1);
        z.span(0, 0, 0, 0);
        due("no room", z.rest(0, 300), 0);
        PuppetStage w = pulledTo(20, 0);
        w.spans(0, 0);
        due("no pairs", w.rest(0, 300), 20);
    }

    /**
     * Two limbs that only change together: here both up or both down, and here one up and one down, are better.
     * Where a span leaves one of them no step, there is no change at all.
     */
    private static void restOfTwoStopsAtTheEnds() {
        for (int limb = 0; limb < 2; limb++) {
            PuppetStage x = new PuppetStage();
            x.limb(0, -1, 10, 2);
            x.limb(0, 0, 5, 0);
            x.pin(0, 0, 30);
            x.hold(0, 30, 1, 5, 80);
            x.bend(0, 0, 11);
            x.bend(0, 1, -9);
            int bend = limb == 0 ? 11 : -9;
            x.spans(0, 2);
            x.span(0, limb, bend - 1, bend + 1);
            due("a change of two", x.isStill(0), 0);
            due("rest", x.rest(0, 1), 1);
            due("limb 0 down", x.told(0, 0, 3), 10);
            due("limb 1 up", x.told(0, 1, 3), -8);
            x.undo();
            x.span(0, limb, bend, bend);
            due("none", x.isStill(0), 1);
            due("rest", x.rest(0, 1), 0);
        }
    }

    /**
     * 'of one LIMB .. by one step', 'of two LIMBS i below j': a limb is not changed twice at once. The string goes
     * from the pin to the limb's end, so that only the roundness of SIN says how long it is; with a bend of 4 it is
     * shorter than with 3 and 5, and longer than with 2 and 6.
     */
    private static void restGoesByOneStep() {
        PuppetStage x = new PuppetStage();
        x.limb(0, -1, 100, 0);
        x.cross(0, 0, 0, 0);
        x.hold(0, 0, 0, 100, 0);
        long[] far = {102373, 102402, 102401, 102406, 102371};
        for (int k = 0; k < 5; k++) {
            x.bend(0, 0, 2 + k);
            due("far with " + (2 + k), x.holds(0, 0, 6), far[k]);
        }
        x.bend(0, 0, 4);
        due("still", x.isStill(0), 1);
        due("rest", x.rest(0, 5), 0);
        x.bend(0, 0, 3);
        due("rest", x.rest(0, 5), 1);
        due("up first", x.told(0, 0, 3), 4);
        x.bend(0, 0, 3);
        x.hand(0, 1);
        due("rest", x.rest(0, 5), 1);
        due("down first", x.told(0, 0, 3), 2);
    }

    /** 'by how much all its HOLDS are too long': one limb, and of twelve holds only the first, or only the last, pulls it. */
    private static void restLooksAtEveryHold() {
        for (int pulling = 0; pulling < 12; pulling += 11) {
            PuppetStage x = new PuppetStage();
            x.limb(0, -1, 10, 1);
            x.cross(0, 10, 0, 0);
            for (int h = 0; h < 12; h++) {
                x.hold(0, 0, 0, 10, h == pulling ? 0 : 500);
            }
            due("rest with hold " + pulling, x.rest(0, 300), 16);
            due("bend", x.told(0, 0, 3), 16);
            x.bend(0, 0, 0);
            due("lowest with hold " + pulling, x.lowest(0), 1);
            due("bend", x.told(0, 0, 3), 16);
        }
    }

    /** Promise 23: 'BAD'. */
    private static void stillNumbers() {
        Edge.puppets("isStill", Edge.LIVELY, (x, n) -> x.isStill(n));
    }

    /** 'If there is none any more, it is AT REST': one step away it is not. */
    private static void stillOnlyWhereNoChangeIsBetter() {
        PuppetStage x = new PuppetStage();
        due("without limbs", x.isStill(0), 1);
        x.limb(0, -1, 10, 1);
        due("hangs", x.isStill(0), 1);
        x.bend(0, 0, 1);
        due("a step up", x.isStill(0), 0);
        x.bend(0, 0, -1);
        due("a step down", x.isStill(0), 0);
        due("the other's", x.isStill(1), 1);
        x.hand(0, 1);
        due("with the other hand", x.isStill(0), 0);
    }

    private static void stillChangesNothing() {
        Edge.unseen("isStill", Edge.LIVELY, x -> x.isStill(0));
        Edge.unseen("isStill", LONG_WAY, x -> x.isStill(0));
        Edge.taken("isStill is no rest", LONG_WAY, x -> {
            x.isStill(0);
            return x.count(3);
        }, 0);
    }

    /** Promise 24: 'NO: it has no LIMBS, or more than 2'. */
    private static void lowestNumbers() {
        Tell.Scene both = x -> {
            x.limb(0, -1, 5, 5);
            x.limb(1, -1, 5, 5);
        };
        Edge.puppets("lowest", both, (x, n) -> x.lowest(n));
        for (int k = 0; k <= 6; k++) {
            int limbs = k;
            Tell.Scene scene = x -> {
                for (int n = 0; n < limbs; n++) {
                    x.limb(0, n - 1, 10, 1);
                    x.bend(0, n, 3);
                }
            };
            if (limbs == 1 || limbs == 2) {
                Edge.taken("lowest of " + limbs, scene, x -> x.lowest(0), limbs);
            } else {
                Edge.refused("lowest of " + limbs, scene, x -> x.lowest(0), NO);
            }
        }
    }

    /** All bends from -32 to 31 are looked at, both ends with them. */
    private static void lowestAtTheEnds() {
        PuppetStage x = pulledTo(-32, 5);
        due("lowest", x.lowest(0), 1);
        due("the least bend", x.told(0, 0, 3), -32);
        PuppetStage y = pulledTo(31, 5);
        due("lowest", y.lowest(0), 1);
        due("the greatest bend", y.told(0, 0, 3), 31);
        due("lawful", y.lies(0, 0), 0);
    }

    /** Bar 1 is 20 units off in the direction of limb 1, which is that of limb 0 or the step beside it. */
    private static void lowestOfTwoAtTheEnds() {
        int[][] ends = {{-32, -32, 0}, {-32, 31, -2}, {31, -32, 2}, {31, 31, 0}};
        for (int[] end : ends) {
            PuppetStage x = pulledTo(end[0], 5);
            x.limb(0, -1, 20, 0);
            x.bar(0, 1, 20, end[2]);
            x.hold(0, 1, 1, 20, 0);
            due("lowest", x.lowest(0), 2);
            due("limb 0", x.told(0, 0, 3), end[0]);
            due("limb 1", x.told(0, 1, 3), end[1]);
        }
    }

    /** 'within SPANS': the least and the greatest of a pair are looked at, and nothing beyond. */
    private static void lowestWithinItsSpan() {
        PuppetStage x = pulledTo(20, 0);
        x.limb(0, -1, 10, 1);
        x.bend(0, 1, 9);
        x.spans(0, 2);
        x.span(0, 0, -3, 7);
        x.span(0, 1, 4, 31);
        due("lowest", x.lowest(0), 2);
        due("the greatest", x.told(0, 0, 3), 7);
        due("the least", x.told(0, 1, 3), 4);
        x.cross(0, 0, 0, tiltFor(-20));
        x.span(0, 1, -32, 4);
        x.bend(0, 1, -6);
        x.span(0, 1, -32, -5);
        due("lowest", x.lowest(0), 2);
        due("the least", x.told(0, 0, 3), -3);
        due("the greatest", x.told(0, 1, 3), -5);
        x.spans(0, 1);
        x.span(0, 0, -3, -3);
        due("limb 1 beyond the pairs", x.lowest(0), 1);
        due("no room", x.told(0, 0, 3), -3);
        due("hangs", x.told(0, 1, 3), 0);
    }

    /** 'of several that with the least BEND of LIMB 0, then of LIMB 1'. */
    private static void lowestOfSeveral() {
        PuppetStage x = new PuppetStage();
        x.limb(0, -1, 10, 0);
        x.limb(0, -1, 10, 0);
        x.spans(0, 2);
        x.span(0, 0, -9, 8);
        x.span(0, 1, -7, 6);
        due("all alike", x.lowest(0), 2);
        due("limb 0", x.told(0, 0, 3), -9);
        due("limb 1", x.told(0, 1, 3), -7);
        PuppetStage y = new PuppetStage();
        y.limb(0, -1, 10, 0);
        y.limb(0, 0, 10, 0);
        y.cross(0, 0, 0, 8);
        y.bar(0, 0, -10, -10);
        y.hold(0, 0, 1, 10, 0);
        due("by the left or by the right", y.lowest(0), 2);
        due("the least of limb 0", y.told(0, 0, 3), -8);
        due("though it is not of limb 1", y.told(0, 1, 3), 16);
        due("lawful", y.lies(0, 0), 0);
        y.bend(0, 0, 8);
        y.bend(0, 1, -16);
        due("as good", y.lies(0, 0), 0);
        due("the least again", y.lowest(0), 2);
    }

    /** 'how many differ from what they were': 0, 1 and 2; and a call that changes none is kept, too. */
    private static void lowestCounts() {
        PuppetStage x = new PuppetStage();
        x.limb(0, -1, 10, 1);
        x.limb(0, -1, 10, 1);
        due("none", x.lowest(0), 0);
        due("kept", x.count(2), 3);
        x.bend(0, 1, 1);
        due("the second", x.lowest(0), 1);
        x.bend(0, 0, -1);
        due("the first", x.lowest(0), 1);
        x.bend(0, 0, -1);
        x.bend(0, 1, 1);
        due("both", x.lowest(0), 2);
        due("undo", x.undo(), 4);
        due("limb 0", x.told(0, 0, 3), -1);
        due("limb 1", x.told(0, 1, 3), 1);
        due("it is no rest", x.count(3), 0);
        x.lose(0);
        x.bend(0, 0, 0);
        due("the bend of a limb that is lost is none", x.lowest(0), 0);
    }
}
