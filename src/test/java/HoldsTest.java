/** Promises 15 to 21: strings, runs, plucks, rods and the ground. */
public final class HoldsTest {
    private static final long BAD = Due.BAD, NO = Due.NO, FULL = Due.FULL, NONE = Due.NONE;
    private static final int LOW = Integer.MIN_VALUE, HIGH = Integer.MAX_VALUE;

    public static void main(String[] args) {
        hold();
        drop();
        pluck();
        farOfString();
        tautJust();
        roots();
        run();
        plucked();
        rod();
        ground();
        isOf();
        lies();
        why();
        Due.finish();
    }

    private static void due(String call, long got, long want) {
        Due.due(call, got, want);
    }

    private static PuppetStage withLimb(int length) {
        PuppetStage x = new PuppetStage();
        x.limb(0, -1, length, 1);
        return x;
    }

    private static void hold() {
        PuppetStage x = new PuppetStage();
        due("hold on no limb", x.hold(0, 0, 0, 0, 0), BAD);
        x.limb(0, -1, 40, 1);
        int[][] wrong = {{2, 0, 0, 0, 0}, {-1, 0, 0, 0, 0}, {0, -1, 0, 0, 0}, {0, -10, 0, 0, 0}, {0, 6, 0, 0, 0}, {0, 9, 0, 0, 0},
            {0, 16, 0, 0, 0}, {0, 49, 0, 0, 0}, {0, 50, 0, 0, 0}, {0, LOW, 0, 0, 0}, {0, HIGH, 0, 0, 0}, {0, 0, 1, 0, 0}, {0, 0, -1, 0, 0},
            {0, 0, 0, -1, 0}, {0, 0, 0, 41, 0}, {0, 0, 0, HIGH, 0}, {0, 0, 0, 0, -1}, {0, 0, 0, 0, 501}, {0, 0, 0, 0, LOW}};
        for (int[] w : wrong) {
            due("hold wrong", x.hold(w[0], w[1], w[2], w[3], w[4]), BAD);
        }
        due("hold no change", x.count(2), 1);
        for (int h = 0; h < 12; h++) {
            int kind = h % 5;
            int bar = h % 6;
            due("hold " + h, x.hold(0, 10 * kind + bar, 0, h == 11 ? 40 : h, h == 11 ? 500 : h), h);
        }
        for (int h = 0; h < 12; h++) {
            due("kind", x.holds(0, h, 0), h % 5);
            due("limb", x.holds(0, h, 1), 0);
            due("spot", x.holds(0, h, 2), h == 11 ? 40 : h);
            due("bar", x.holds(0, h, 3), h % 6);
            due("length", x.holds(0, h, 4), h == 11 ? 500 : h);
            due("taken", x.holds(0, h, 5), 0);
        }
        due("hold full", x.hold(0, 0, 0, 0, 0), FULL);
        due("hold bad ahead of full", x.hold(0, 0, 0, 0, 501), BAD);
        due("hold of the other", x.hold(1, 0, 0, 0, 0), BAD);
        due("holds -1", x.holds(0, -1, 0), BAD);
        due("holds 12", x.holds(0, 12, 0), BAD);
        due("holds what -1", x.holds(0, 0, -1), BAD);
        due("holds what 9", x.holds(0, 0, 9), BAD);
        due("holds puppet", x.holds(2, 0, 0), BAD);
        due("holds of the other", x.holds(1, 0, 0), BAD);
    }

    private static void drop() {
        PuppetStage x = withLimb(40);
        due("drop none", x.drop(0, 0), BAD);
        for (int kind = 0; kind < 5; kind++) {
            x.hold(0, 10 * kind + kind, 0, 10 + kind, 20 + kind);
        }
        x.pluck(0, 2, 7);
        due("drop puppet", x.drop(2, 0), BAD);
        due("drop -1", x.drop(0, -1), BAD);
        due("drop 5", x.drop(0, 5), BAD);
        due("drop high", x.drop(0, HIGH), BAD);
        due("drop 1", x.drop(0, 1), 1);
        due("holds", x.about(0, 1), 4);
        due("those behind come ahead: kind", x.holds(0, 1, 0), 2);
        due("spot", x.holds(0, 1, 2), 12);
        due("bar", x.holds(0, 1, 3), 2);
        due("length", x.holds(0, 1, 4), 22);
        due("taken", x.holds(0, 1, 5), 7);
        due("taken of the next", x.holds(0, 2, 5), 0);
        due("drop the last", x.drop(0, 3), 4);
        due("drop the first", x.drop(0, 0), 0);
        due("drop the pluck", x.drop(0, 0), 2);
        due("drop the rod", x.drop(0, 0), 3);
        due("drop none", x.drop(0, 0), BAD);
        due("a pluck", x.hold(0, 20, 0, 1, 30), 0);
        due("plucked", x.pluck(0, 0, 8), 0);
        due("dropped", x.drop(0, 0), 2);
        due("a new pluck", x.hold(0, 20, 0, 1, 30), 0);
        due("has nothing taken", x.holds(0, 0, 5), 0);
    }

    private static void pluck() {
        PuppetStage x = withLimb(40);
        x.hold(0, 20, 0, 1, 30);
        x.hold(0, 0, 0, 1, 30);
        x.hold(0, 10, 0, 1, 30);
        x.hold(0, 30, 0, 1, 30);
        x.hold(0, 40, 0, 1, 30);
        due("pluck puppet", x.pluck(2, 0, 0), BAD);
        due("pluck hold", x.pluck(0, 5, 0), BAD);
        due("pluck hold -1", x.pluck(0, -1, 0), BAD);
        for (int h = 1; h < 5; h++) {
            due("pluck of no pluck", x.pluck(0, h, 1), NO);
            due("no ahead of the number", x.pluck(0, h, 31), NO);
        }
        due("pluck 31", x.pluck(0, 0, 31), BAD);
        due("pluck -1", x.pluck(0, 0, -1), BAD);
        due("pluck low", x.pluck(0, 0, LOW), BAD);
        due("pluck 30", x.pluck(0, 0, 30), 0);
        due("pluck 4", x.pluck(0, 0, 4), 30);
        due("taken", x.holds(0, 0, 5), 4);
        due("pluck 0", x.pluck(0, 0, 0), 4);
    }

    private static void farOfString() {
        PuppetStage x = withLimb(40);
        x.cross(0, 30, 0, 0);
        due("string", x.hold(0, 0, 0, 40, 50), 0);
        due("far", x.holds(0, 0, 6), 51200);
        due("just long enough", x.holds(0, 0, 7), 0);
        due("taut", x.holds(0, 0, 8), 1);
        due("a shorter one", x.hold(0, 0, 0, 40, 49), 1);
        due("too long", x.holds(0, 1, 7), 1024);
        due("taut", x.holds(0, 1, 8), 1);
        due("a longer one", x.hold(0, 0, 0, 40, 51), 2);
        due("not too long", x.holds(0, 2, 7), 0);
        due("slack", x.holds(0, 2, 8), 0);
    }

    /** The end is 12800 grains to the right of the bar, which is 13 units less 512 grains. */
    private static void tautJust() {
        PuppetStage x = withLimb(32);
        x.limb(0, 0, 32, 1);
        x.bend(0, 0, 2);
        x.bend(0, 1, 28);
        x.cross(0, 0, 0, 0);
        x.hold(0, 0, 1, 32, 13);
        x.hold(0, 0, 1, 32, 14);
        x.hold(0, 20, 1, 32, 14);
        due("far", x.holds(0, 0, 6), 12800);
        due("just taut", x.holds(0, 0, 8), 1);
        due("slack", x.holds(0, 1, 8), 0);
        due("slack pluck", x.holds(0, 2, 8), 0);
        x.pluck(0, 2, 1);
        due("just taut pluck", x.holds(0, 2, 8), 1);
        due("taut ones", x.lies(0, 3), 2);
        x.bar(0, 0, 0, 0);
        x.pin(0, 1, 0);
        due("far", x.holds(0, 0, 6), 13824);
        x.pin(0, -1, 0);
        due("not taut any more", x.lies(0, 3), 0);
    }

    /** Distances that no whole number measures are rounded up. */
    private static void roots() {
        PuppetStage x = withLimb(2);
        x.cross(0, 0, 0, 0);
        x.hold(0, 0, 0, 1, 1);
        x.bend(0, 0, 1);
        due("at x", x.at(0, 0, 1, 0), 100);
        due("at y", x.at(0, 0, 1, 1), -1019);
        due("root of 1048361 is 1023.9", x.holds(0, 0, 6), 1024);
        due("not too long", x.holds(0, 0, 7), 0);
        due("lawful", x.why(0), NONE);
        x.bend(0, 0, 4);
        due("root of 1048580 is 1024.002", x.holds(0, 0, 6), 1025);
        due("too long by a grain", x.holds(0, 0, 7), 1);
        due("that is why", x.why(0), 0);
        due("one too long", x.lies(0, 2), 1);
        x.hold(0, 0, 0, 0, 0);
        due("root of 0", x.holds(0, 1, 6), 0);
        due("taut without length", x.holds(0, 1, 8), 1);
        due("not too long", x.holds(0, 1, 7), 0);
        x.pin(0, -300, -300);
        x.cross(0, 300, 300, 0);
        due("root of 2 * 614400^2", x.holds(0, 1, 6), 868893);
    }

    private static void run() {
        PuppetStage x = withLimb(40);
        x.cross(0, 30, 0, 0);
        x.limb(0, 0, 10, 1);
        due("run to limb 1", x.hold(0, 10, 1, 10, 100), 0);
        due("far: root of 58.3 units, and 50", x.holds(0, 0, 6), 59709 + 51200);
        due("too long", x.holds(0, 0, 7), 110909 - 102400);
        due("run to limb 0", x.hold(0, 10, 0, 40, 101), 1);
        due("far twice", x.holds(0, 1, 6), 102400);
        due("not too long", x.holds(0, 1, 7), 0);
        due("not taut", x.holds(0, 1, 8), 0);
        due("run to its beginning", x.hold(0, 10, 0, 0, 80), 2);
        due("far 30 and 50", x.holds(0, 2, 6), 81920);
        due("taut", x.holds(0, 2, 8), 1);
        x.bend(0, 0, 16);
        x.cross(0, 10, 40, 0);
        due("far to the pin, and 50 to the end", x.holds(0, 2, 6), 42221 + 51200);
        x.pin(0, 0, 70);
        due("far to the pin above, and to the end", x.holds(0, 2, 6), 32382 + 43445);
    }

    private static void plucked() {
        PuppetStage x = withLimb(40);
        x.cross(0, 30, 0, 0);
        x.hold(0, 20, 0, 40, 60);
        due("slack", x.holds(0, 0, 8), 0);
        x.pluck(0, 0, 9);
        due("slack still", x.holds(0, 0, 8), 0);
        x.pluck(0, 0, 10);
        due("taut", x.holds(0, 0, 8), 1);
        due("not too long", x.holds(0, 0, 7), 0);
        x.pluck(0, 0, 13);
        due("too long", x.holds(0, 0, 7), 3072);
        due("L stays", x.holds(0, 0, 4), 60);
        x.pluck(0, 0, 60);
        due("all taken", x.holds(0, 0, 7), 51200);
    }

    private static void rod() {
        PuppetStage x = withLimb(40);
        x.cross(0, 30, 0, 0);
        int[] lengths = {48, 49, 50, 51, 52, 0};
        long[] over = {1024, 0, 0, 0, 1024, 50176};
        long[] taut = {1, 1, 1, 0, 0, 1};
        for (int h = 0; h < lengths.length; h++) {
            x.hold(0, 30, 0, 40, lengths[h]);
            due("rod far", x.holds(0, h, 6), 51200);
            due("rod too long " + lengths[h], x.holds(0, h, 7), over[h]);
            due("rod taut " + lengths[h], x.holds(0, h, 8), taut[h]);
        }
        due("excess", x.lies(0, 0), 52224);
        due("how many too long", x.lies(0, 2), 3);
    }

    private static void ground() {
        PuppetStage x = withLimb(40);
        x.hold(0, 45, 0, 40, 500);
        x.hold(0, 40, 0, 0, 0);
        due("ground far", x.holds(0, 0, 6), 0);
        due("below", x.holds(0, 0, 7), 40960);
        due("never taut", x.holds(0, 1, 8), 0);
        due("on the ground", x.holds(0, 1, 7), 0);
        due("bar as told", x.holds(0, 0, 3), 5);
        due("L as told", x.holds(0, 0, 4), 500);
        x.pin(0, 0, 39);
        due("below by one unit", x.holds(0, 0, 7), 1024);
        x.pin(0, 0, 40);
        due("not below", x.holds(0, 0, 7), 0);
        due("taut ones", x.lies(0, 3), 0);
    }

    private static void isOf() {
        PuppetStage x = withLimb(40);
        for (int kind = 0; kind < 5; kind++) {
            x.hold(0, 10 * kind, 0, 0, 0);
        }
        long[][] want = {{1, 0, 0, 0, 0}, {1, 1, 0, 0, 0}, {1, 0, 1, 0, 0}, {1, 0, 0, 1, 0}, {0, 0, 0, 0, 1}};
        for (int h = 0; h < 5; h++) {
            for (int kind = 0; kind < 5; kind++) {
                due("isOf(0, " + h + ", " + kind + ")", x.isOf(0, h, kind), want[h][kind]);
            }
        }
        due("isOf puppet", x.isOf(2, 0, 0), BAD);
        due("isOf hold 5", x.isOf(0, 5, 0), BAD);
        due("isOf hold -1", x.isOf(0, -1, 0), BAD);
        due("isOf kind 5", x.isOf(0, 0, 5), BAD);
        due("isOf kind -1", x.isOf(0, 0, -1), BAD);
    }

    private static void lies() {
        PuppetStage x = new PuppetStage();
        for (int what = 0; what < 4; what++) {
            due("lies of nothing", x.lies(0, what), 0);
        }
        due("lies 4", x.lies(0, 4), BAD);
        due("lies -1", x.lies(0, -1), BAD);
        due("lies puppet", x.lies(2, 0), BAD);
        x.pin(0, 0, 10);
        x.limb(0, -1, 40, 3);
        x.limb(0, 0, 10, 50);
        x.limb(0, 0, 10, 0);
        x.bend(0, 1, 16);
        due("depth", x.lies(0, 1), 1024 * (3 * (10 - 30) + 50 * (-30 - 30)));
        x.hold(0, 0, 0, 40, 100);
        x.hold(0, 40, 0, 40, 0);
        x.hold(0, 0, 0, 0, 90);
        due("excess", x.lies(0, 0), 1024 * (30 + 30));
        due("too long", x.lies(0, 2), 2);
        due("taut", x.lies(0, 3), 2);
    }

    private static void why() {
        PuppetStage x = withLimb(40);
        due("why puppet", x.why(2), BAD);
        due("why puppet", x.why(-1), BAD);
        due("no holds", x.why(0), NONE);
        x.cross(0, 30, 0, 0);
        x.hold(0, 0, 0, 40, 60);
        due("lawful", x.why(0), NONE);
        x.hold(0, 0, 0, 40, 45);
        due("hold 1", x.why(0), 1);
        x.hold(0, 0, 0, 40, 44);
        due("hold 2", x.why(0), 2);
        x.hold(0, 0, 0, 40, 44);
        due("the least of several", x.why(0), 2);
        x.hold(0, 40, 0, 40, 0);
        due("the ground", x.why(0), 4);
        x.drop(0, 0);
        due("one number ahead", x.why(0), 3);
        x.drop(0, 3);
        x.drop(0, 0);
        due("the first", x.why(0), 0);
    }
}
