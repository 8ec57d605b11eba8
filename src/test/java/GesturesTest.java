/** Promises 25 to 30: ticks, poses and reaching. */
public final class GesturesTest {
    private static final long BAD = Due.BAD, NO = Due.NO, FULL = Due.FULL, NONE = Due.NONE;
    private static final int LOW = Integer.MIN_VALUE, HIGH = Integer.MAX_VALUE;

    public static void main(String[] args) {
        tick();
        calm();
        playRefused();
        play();
        playAtMost();
        pose();
        round();
        reachRefused();
        reach();
        reachLeastTilt();
        reachAtTheEdge();
        reachFromTheSameBends();
        Due.finish();
    }

    private static void due(String call, long got, long want) {
        Due.due(call, got, want);
    }

    /** A limb whose end is pulled to the cross, which is as far from the pin as the limb is long. */
    private static PuppetStage pulled() {
        PuppetStage x = new PuppetStage();
        x.limb(0, -1, 20, 1);
        x.hold(0, 0, 0, 20, 0);
        return x;
    }

    private static void tick() {
        PuppetStage x = new PuppetStage();
        int[][] wrong = {{-1, 0, 0, 0}, {2, 0, 0, 0}, {0, 301, 0, 0}, {0, -301, 0, 0}, {0, 0, 301, 0}, {0, 0, -301, 0},
            {0, 0, 0, 32}, {0, 0, 0, -33}, {0, LOW, 0, 0}, {0, 0, HIGH, 0}, {0, 0, 0, HIGH}};
        for (int[] w : wrong) {
            due("tick wrong", x.tick(w[0], w[1], w[2], w[3]), BAD);
        }
        for (int k = 1; k <= 12; k++) {
            due("tick " + k, x.tick(0, k % 2 == 0 ? 300 : -300, -300, k % 2 == 0 ? 31 : -32), k);
        }
        due("tick full", x.tick(0, 0, 0, 0), FULL);
        due("tick bad ahead of full", x.tick(0, 0, 0, 32), BAD);
        due("ticks", x.about(0, 6), 12);
        due("no change", x.count(2), 0);
        due("the cross stays", x.about(0, 3), 100);
        due("the other's", x.tick(1, 0, 0, 0), 1);
    }

    private static void calm() {
        PuppetStage x = pulled();
        due("calm puppet", x.calm(2), BAD);
        due("calm puppet", x.calm(-1), BAD);
        due("calm nothing", x.calm(0), 0);
        x.tick(0, 0, 20, 0);
        x.tick(0, 20, 0, 0);
        x.play(0, 10);
        due("poses", x.about(0, 7), 2);
        long changes = x.count(2);
        due("a tick more", x.tick(0, 0, 0, 0), 3);
        due("poses are none", x.about(0, 7), 0);
        x.play(0, 10);
        due("calm", x.calm(0), 3);
        due("no ticks", x.about(0, 6), 0);
        due("no poses", x.about(0, 7), 0);
        due("play alone was a change", x.count(2), changes + 1);
        due("undo brings ticks back, but no poses", x.undo(), changes);
        due("ticks", x.about(0, 6), 3);
        due("poses", x.about(0, 7), 0);
    }

    private static void playRefused() {
        PuppetStage x = new PuppetStage();
        due("play puppet", x.play(2, 1), BAD);
        due("play 0", x.play(0, 0), BAD);
        due("play 101", x.play(0, 101), BAD);
        due("play low", x.play(0, LOW), BAD);
        due("play nothing", x.play(0, 1), NO);
        x.tick(0, 0, 0, 0);
        due("play without limbs", x.play(0, 1), NO);
        x.limb(1, -1, 1, 1);
        due("play without ticks", x.play(1, 100), NO);
        due("round without poses", x.round(0), NO);
        due("round puppet", x.round(2), BAD);
        due("no change but the limb", x.count(2), 1);
    }

    private static void play() {
        PuppetStage x = pulled();
        x.tick(0, 20, 0, 5);
        x.tick(0, 0, 20, 6);
        x.tick(0, 0, -20, 7);
        due("play", x.play(0, 100), 16 + 15 + 31);
        due("pose 0", x.pose(0, 0, 0), 16);
        due("pose 1: not round to -32", x.pose(0, 1, 0), 31);
        due("pose 2", x.pose(0, 2, 0), 0);
        due("the bend stays", x.told(0, 0, 3), 0);
        due("the cross's x stays", x.about(0, 2), 0);
        due("the cross's y stays", x.about(0, 3), -20);
        due("the tilt stays", x.about(0, 4), 7);
        due("poses", x.about(0, 7), 3);
        due("it is no rest", x.count(3), 0);
        due("undo", x.undo(), 2);
        due("the cross is back", x.about(0, 3), 100);
        due("no poses", x.about(0, 7), 0);
        due("ticks stay", x.about(0, 6), 3);
    }

    private static void playAtMost() {
        PuppetStage x = pulled();
        x.tick(0, 20, 0, 0);
        x.tick(0, 20, 0, 0);
        x.tick(0, 0, -20, 0);
        due("five at most, each", x.play(0, 5), 15);
        due("pose 0", x.pose(0, 0, 0), 5);
        due("pose 1", x.pose(0, 1, 0), 10);
        due("pose 2", x.pose(0, 2, 0), 5);
        due("again", x.play(0, 1), 3);
        due("pose 0", x.pose(0, 0, 0), 6);
        due("pose 1", x.pose(0, 1, 0), 7);
        due("pose 2", x.pose(0, 2, 0), 6);
    }

    private static void pose() {
        PuppetStage x = pulled();
        due("pose puppet", x.pose(2, 0, 0), BAD);
        due("pose limb", x.pose(0, 0, 1), BAD);
        due("pose limb -1", x.pose(0, 0, -1), BAD);
        due("pose of no limb", x.pose(1, 0, 0), BAD);
        due("no pose", x.pose(0, 0, 0), NONE);
        x.limb(0, 0, 1, 1);
        x.tick(0, 20, 0, 0);
        x.tick(0, 20, 0, 0);
        x.play(0, 1);
        due("pose 0 limb 0", x.pose(0, 0, 0), 1);
        due("pose 0 limb 1", x.pose(0, 0, 1), 0);
        due("pose 2", x.pose(0, 2, 0), NONE);
        due("pose -1", x.pose(0, -1, 0), NONE);
        due("pose high", x.pose(0, HIGH, 0), NONE);
        due("pose bad ahead of none", x.pose(0, 9, 2), BAD);
        x.bend(0, 0, 9);
        x.rest(0, 1);
        x.cross(0, 0, 0, 0);
        due("other changes leave poses", x.pose(0, 0, 0), 1);
        x.lose(0);
        due("none when a limb is lost", x.pose(0, 0, 0), NONE);
    }

    private static void round() {
        PuppetStage x = pulled();
        x.tick(0, 0, -20, 3);
        x.play(0, 50);
        due("one tick", x.round(0), 1);
        x.tick(0, 20, 0, 4);
        due("no poses", x.round(0), NO);
        x.play(0, 50);
        due("other bends", x.round(0), 0);
        x.tick(0, 0, -20, 4);
        x.bend(0, 0, 0);
        x.play(0, 50);
        due("pose 0", x.pose(0, 0, 0), 0);
        due("pose 2", x.pose(0, 2, 0), 0);
        due("bends alike, tilts not", x.round(0), 0);
        x.tick(0, 0, -20, 3);
        x.play(0, 50);
        due("both alike", x.round(0), 1);
        x.calm(0);
        x.tick(0, 0, -20, 3);
        x.tick(0, 20, 0, 3);
        x.play(0, 50);
        due("tilts alike, bends not", x.round(0), 0);
        x.calm(0);
        x.limb(0, 0, 5, 1);
        x.bend(0, 0, 0);
        x.bend(0, 1, 4);
        x.tick(0, 0, -20, 3);
        x.tick(0, 0, -20, 3);
        x.play(0, 1);
        due("limb 0 alike", x.pose(0, 0, 0) - x.pose(0, 1, 0), 0);
        due("limb 1 not", x.pose(0, 0, 1) - x.pose(0, 1, 1), 1);
        due("not round", x.round(0), 0);
    }

    private static void reachRefused() {
        PuppetStage x = pulled();
        int[][] wrong = {{2, 0, 0, 0}, {-1, 0, 0, 0}, {0, 1, 0, 0}, {0, -1, 0, 0}, {1, 0, 0, 0},
            {0, 0, 301, 0}, {0, 0, -301, 0}, {0, 0, 0, 301}, {0, 0, 0, -301}, {0, 0, LOW, 0}, {0, 0, 0, HIGH}};
        for (int[] w : wrong) {
            due("reach wrong", x.reach(w[0], w[1], w[2], w[3]), BAD);
        }
        due("changes", x.count(2), 2);
    }

    /** The end goes where the bar goes, which is right of the cross by the limb's length. */
    private static PuppetStage onABar() {
        PuppetStage x = pulled();
        x.cross(0, 0, 0, 0);
        x.bar(0, 0, 20, 0);
        return x;
    }

    private static void reach() {
        PuppetStage x = onABar();
        due("reach straight right", x.reach(0, 0, 20, 0), 0);
        due("the tilt", x.about(0, 4), 0);
        due("the bend", x.told(0, 0, 3), 16);
        due("it is no rest", x.count(3), 0);
        due("reach up", x.reach(0, 0, 0, 20), square(20 * 946, 20 * 392 - 20480));
        due("the greatest tilt", x.about(0, 4), 4);
        due("the bend", x.told(0, 0, 3), 20);
        due("the cross's place stays", x.about(0, 2), 0);
        due("undo", x.undo(), 4);
        due("the tilt is back", x.about(0, 4), 0);
        due("the bend is back", x.told(0, 0, 3), 16);
        due("reach down", x.reach(0, 0, 0, -20), square(20 * 946, 20480 - 20 * 392));
        due("the least tilt", x.about(0, 4), -4);
        due("the bend", x.told(0, 0, 3), 12);
    }

    private static long square(long dx, long dy) {
        return dx * dx + dy * dy;
    }

    private static void reachLeastTilt() {
        PuppetStage x = new PuppetStage();
        x.limb(0, -1, 20, 1);
        x.cross(0, 0, 100, 3);
        due("nothing holds it: all alike", x.reach(0, 0, 0, 0), 20480L * 20480L);
        due("the least", x.about(0, 4), -1);
        due("a place in the middle", x.reach(0, 0, 0, -20), 0);
        due("the least", x.about(0, 4), -5);
    }

    private static void reachAtTheEdge() {
        PuppetStage x = new PuppetStage();
        x.limb(0, -1, 20, 1);
        x.cross(0, 0, 100, -30);
        x.reach(0, 0, 0, 0);
        due("not below -32", x.about(0, 4), -32);
        PuppetStage y = onABar();
        y.cross(0, 0, 0, 30);
        y.bend(0, 0, -18);
        y.reach(0, 0, -20, -20);
        due("not above 31", y.about(0, 4), 31);
        due("bend", y.told(0, 0, 3), -17);
    }

    /** 60 changes at most, and every tilt begins with the bends as they were. */
    private static void reachFromTheSameBends() {
        PuppetStage x = onABar();
        x.bend(0, 0, 31);
        x.cross(0, 0, 0, 14);
        due("reach", x.reach(0, 0, 0, -20), square(20 * 569, 20480 + 20 * 851));
        due("the tilt", x.about(0, 4), 10);
        due("the bend", x.told(0, 0, 3), 26);
        PuppetStage y = onABar();
        y.limb(0, -1, 20, 1);
        y.limb(0, -1, 20, 1);
        y.bend(0, 0, -16);
        y.bend(0, 1, 31);
        y.bend(0, 2, 31);
        y.bar(0, 0, -20, 0);
        y.reach(0, 2, 0, -20);
        Due.isTrue("limb 2 is not down yet: 60 changes at most", y.told(0, 2, 3) > 0);
        due("limb 1 is", y.told(0, 1, 3), 0);
    }
}
