/** Promises 25 to 30: every sentence that names a boundary case. */
public final class EdgesOfGesturesTest {
    private static final long BAD = Due.BAD, NO = Due.NO, FULL = Due.FULL, NONE = Due.NONE;

    /** Four limbs on the pin that have 31 steps each to fall, one after the other. */
    private static final Tell.Scene FALLING = x -> {
        for (int k = 0; k < 4; k++) {
            x.limb(0, -1, 10, 1);
            x.bend(0, k, 31);
        }
    };

    public static void main(String[] args) {
        tickNumbers();
        ticksAreFull();
        tickEndsPoses();
        calmOfNone();
        calmMakesRoom();
        ticksAreNoChanges();
        playNumbers();
        playOfNothing();
        playAtMost();
        playOfTwelve();
        poseNumbers();
        poseOfNone();
        roundOfNone();
        roundOfOne();
        roundNeedsAllAlike();
        reachNumbers();
        reachFourTilts();
        reachWithinTilts();
        reachSixtyTimes();
        reachLeastTilt();
        reachBendsAll();
        Due.finish();
    }

    private static void due(String call, long got, long want) {
        Due.due(call, got, want);
    }

    private static Tell.Scene ticks(int n) {
        return x -> {
            x.limb(0, -1, 20, 1);
            for (int k = 0; k < n; k++) {
                x.tick(0, k, 100, k);
            }
        };
    }

    /** Promise 25: 'BAD: puppet, place (as cross()), tilt'. */
    private static void tickNumbers() {
        Edge.puppets("tick", Edge.LIVELY, (x, n) -> x.tick(n, 1, 2, 3));
        Edge.bounds("tick x", Edge.LIVELY, (x, n) -> x.tick(0, n, 2, 3), -300, 300, BAD);
        Edge.bounds("tick y", Edge.LIVELY, (x, n) -> x.tick(0, 1, n, 3), -300, 300, BAD);
        Edge.bounds("tick tilt", Edge.LIVELY, (x, n) -> x.tick(0, 1, 2, n), -32, 31, BAD);
        Edge.taken("how many", Edge.LIVELY, x -> x.tick(0, 1, 2, 3), 4);
        Edge.taken("the first", Edge.NEW, x -> x.tick(1, 1, 2, 3), 1);
        for (int side = -1; side <= 1; side += 2) {
            PuppetStage x = Tell.made(ticks(0));
            x.tick(0, 300 * side, -300 * side, side < 0 ? -32 : 31);
            x.play(0, 1);
            due("x is played", x.about(0, 2), 300 * side);
            due("y is played", x.about(0, 3), -300 * side);
            due("the tilt is played", x.about(0, 4), side < 0 ? -32 : 31);
        }
    }

    /** 'up to 12 TICKS', 'FULL', which BAD stands ahead of. */
    private static void ticksAreFull() {
        Edge.taken("the twelfth", ticks(11), x -> x.tick(0, 1, 2, 3), 12);
        Edge.refused("the thirteenth", ticks(12), x -> x.tick(0, 1, 2, 3), FULL);
        Edge.taken("the other's first", ticks(12), x -> x.tick(1, 1, 2, 3), 1);
        Edge.refused("x ahead of FULL", ticks(12), x -> x.tick(0, 301, 2, 3), BAD);
        Edge.refused("y ahead of FULL", ticks(12), x -> x.tick(0, 1, -301, 3), BAD);
        Edge.refused("tilt ahead of FULL", ticks(12), x -> x.tick(0, 1, 2, 32), BAD);
        Edge.refused("with poses", x -> {
            ticks(12).set(x);
            x.play(0, 1);
        }, x -> x.tick(0, 1, 2, 3), FULL);
    }

    /** 'POSES are none then', of that puppet. */
    private static void tickEndsPoses() {
        PuppetStage x = Tell.made(Edge.LIVELY);
        due("tick", x.tick(0, 1, 2, 3), 4);
        due("no poses", x.about(0, 7), 0);
        due("no pose", x.pose(0, 0, 0), NONE);
        due("not round", x.round(0), NO);
        due("the other's", x.about(1, 7), 3);
    }

    /** Promise 26: 'how many it had', 0 with them. */
    private static void calmOfNone() {
        Edge.puppets("calm", Edge.LIVELY, (x, n) -> x.calm(n));
        Edge.taken("none", ticks(0), x -> x.calm(0), 0);
        Edge.taken("one", ticks(1), x -> x.calm(0), 1);
        Edge.taken("twelve", ticks(12), x -> x.calm(0), 12);
        Edge.taken("none any more", ticks(12), x -> {
            x.calm(0);
            return x.calm(0);
        }, 0);
        Edge.unseen("calm of none", ticks(0), x -> x.calm(0));
        PuppetStage x = Tell.made(Edge.LIVELY);
        due("calm", x.calm(1), 3);
        due("no ticks", x.about(1, 6), 0);
        due("no poses", x.about(1, 7), 0);
        due("no pose", x.pose(1, 0, 0), NONE);
        due("the other's ticks", x.about(0, 6), 3);
        due("the other's poses", x.about(0, 7), 3);
    }

    private static void calmMakesRoom() {
        PuppetStage x = Tell.made(ticks(12));
        x.calm(0);
        due("nothing to play", x.play(0, 1), NO);
        due("the first again", x.tick(0, 9, 8, 7), 1);
        due("play", x.play(0, 1), 0);
        due("one pose", x.about(0, 7), 1);
        due("its x", x.about(0, 2), 9);
    }

    /** '(No CHANGE.)': neither tick() nor calm() is kept, and neither pushes one out. */
    private static void ticksAreNoChanges() {
        PuppetStage x = Tell.made(Edge.LIVELY);
        due("kept", x.count(2), 5);
        x.tick(0, 1, 2, 3);
        x.calm(1);
        x.tick(1, 1, 2, 3);
        due("kept", x.count(2), 5);
        for (int k = 4; k >= 0; k--) {
            due("undo", x.undo(), k);
        }
        due("undo none", x.undo(), NO);
        PuppetStage y = new PuppetStage();
        y.tick(0, 1, 2, 3);
        y.calm(0);
        due("undo none", y.undo(), NO);
    }

    /** Promise 27: 'n 1 .. 100'; BAD stands ahead of NO. */
    private static void playNumbers() {
        Edge.puppets("play", Edge.LIVELY, (x, n) -> x.play(n, 5));
        Edge.bounds("play", Edge.LIVELY, (x, n) -> x.play(0, n), 1, 100, BAD);
        Edge.refused("BAD ahead of NO", Edge.NEW, x -> x.play(0, 0), BAD);
        Edge.refused("BAD ahead of NO", Edge.NEW, x -> x.play(0, 101), BAD);
    }

    /** 'NO: it has no ticks, or the PUPPET no LIMBS', each by itself. */
    private static void playOfNothing() {
        Edge.refused("neither", Edge.NEW, x -> x.play(0, 1), NO);
        Edge.refused("no ticks", ticks(0), x -> x.play(0, 1), NO);
        Edge.refused("no limbs", x -> x.tick(0, 1, 2, 3), x -> x.play(0, 1), NO);
        Edge.refused("the other's ticks", x -> {
            ticks(1).set(x);
            x.limb(1, -1, 5, 5);
        }, x -> x.play(1, 1), NO);
        Edge.taken("one of each", ticks(1), x -> x.play(0, 1), 0);
        PuppetStage x = Tell.made(ticks(1));
        x.play(0, 1);
        due("a play without changes of bends is kept", x.count(2), 2);
    }

    /** 'the PUPPET RESTS n times at most' in each tick: 100 of 124 steps in the first, 24 in the second. */
    private static void playAtMost() {
        for (int n : new int[] {1, 99, 100}) {
            PuppetStage x = Tell.made(FALLING);
            x.tick(0, 0, 100, 0);
            due("one tick", x.play(0, n), n);
        }
        PuppetStage x = Tell.made(FALLING);
        x.tick(0, 0, 100, 0);
        x.tick(0, 0, 100, 0);
        x.tick(0, 0, 100, 0);
        due("in all", x.play(0, 100), 124);
        for (int k = 0; k < 4; k++) {
            due("pose 0", x.pose(0, 0, k), k < 3 ? 0 : 24);
            due("pose 1", x.pose(0, 1, k), 0);
            due("pose 2", x.pose(0, 2, k), 0);
        }
        due("not of rest()", x.count(3), 0);
    }

    private static void playOfTwelve() {
        PuppetStage x = Tell.made(ticks(12));
        x.bend(0, 0, 31);
        due("play", x.play(0, 2), 24);
        due("poses", x.about(0, 7), 12);
        for (int t = 0; t < 12; t++) {
            due("pose " + t, x.pose(0, t, 0), 29 - 2 * t);
        }
        due("no thirteenth", x.pose(0, 12, 0), NONE);
        due("the cross stays: x", x.about(0, 2), 11);
        due("the cross stays: tilt", x.about(0, 4), 11);
        due("the bend stays", x.told(0, 0, 3), 7);
    }

    /** Promise 28: 'BAD: puppet, limb', ahead of NONE. */
    private static void poseNumbers() {
        Edge.puppets("pose", Edge.LIVELY, (x, n) -> x.pose(n, 0, 0));
        Edge.bounds("pose limb", Edge.LIVELY, (x, n) -> x.pose(0, 0, n), 0, 2, BAD);
        Edge.bounds("pose limb of no pose", ticks(1), (x, n) -> x.pose(0, 0, n), 0, 0, BAD);
        Edge.refused("BAD ahead of NONE", Edge.LIVELY, x -> x.pose(0, 3, 3), BAD);
        Edge.refused("BAD ahead of NONE", Edge.LIVELY, x -> x.pose(0, -1, -1), BAD);
    }

    /** 'NONE: there is no such POSE', beyond on each side, and where nothing was played. */
    private static void poseOfNone() {
        for (int tick : new int[] {Edge.LOW, -1, 3, 11, 12, Edge.HIGH}) {
            Edge.taken("pose " + tick, Edge.LIVELY, x -> x.pose(0, tick, 0), NONE);
            Edge.unseen("pose " + tick, Edge.LIVELY, x -> x.pose(0, tick, 0));
        }
        Edge.taken("the last", Edge.LIVELY, x -> Edge.isRefusal(x.pose(0, 2, 0)) || x.pose(0, 2, 0) == NONE ? 1 : 0, 0);
        Edge.taken("a tick that was not played", ticks(1), x -> x.pose(0, 0, 0), NONE);
        Edge.taken("the other's", Edge.LIVELY, x -> {
            x.calm(0);
            return x.pose(1, 0, 0) == NONE ? 1 : 0;
        }, 0);
    }

    /** Promise 29: 'NO: there are no POSES'. */
    private static void roundOfNone() {
        Edge.puppets("round", Edge.LIVELY, (x, n) -> x.round(n));
        Edge.refused("no ticks", ticks(0), x -> x.round(0), NO);
        Edge.refused("ticks that were not played", ticks(3), x -> x.round(0), NO);
        Edge.refused("poses that are none any more", x -> {
            ticks(3).set(x);
            x.play(0, 1);
            x.limb(0, 0, 5, 5);
        }, x -> x.round(0), NO);
    }

    /** One pose is the first and the last. */
    private static void roundOfOne() {
        PuppetStage x = Tell.made(ticks(1));
        x.bend(0, 0, 9);
        x.play(0, 1);
        due("one", x.round(0), 1);
    }

    /** 'the first and last POSES are alike, and the TILTS of those ticks', whatever is between them. */
    private static void roundNeedsAllAlike() {
        due("all alike", played(5, 5, false), 1);
        due("a tilt a step off", played(5, 6, false), 0);
        due("a tilt a step off", played(-32, -31, false), 0);
        due("tilts half a round off", played(-32, 31, false), 0);
        due("the last limb's bend a step off", played(5, 5, true), 0);
    }

    /** Twelve ticks of other places, the first and last with those tilts; the sixth limb falls a step in each, or none. */
    private static long played(int first, int last, boolean falls) {
        PuppetStage x = new PuppetStage();
        for (int k = 0; k < 6; k++) {
            x.limb(0, -1, 10, 1);
        }
        x.bend(0, 5, falls ? 12 : 0);
        for (int k = 0; k < 12; k++) {
            x.tick(0, k, 100 + k, k == 0 ? first : k == 11 ? last : 20);
        }
        due("play", x.play(0, 1), falls ? 12 : 0);
        return x.round(0);
    }

    /** Promise 30: 'BAD: puppet, limb, place (units, -300 .. 300)'. */
    private static void reachNumbers() {
        Edge.puppets("reach", Edge.LIVELY, (x, n) -> x.reach(n, 0, 1, 2));
        Edge.bounds("reach limb", Edge.LIVELY, (x, n) -> x.reach(0, n, 1, 2), 0, 2, BAD);
        Edge.bounds("reach x", Edge.LIVELY, (x, n) -> x.reach(0, 0, n, 2), -300, 300, BAD);
        Edge.bounds("reach y", Edge.LIVELY, (x, n) -> x.reach(0, 0, 1, n), -300, 300, BAD);
        Edge.refused("no limbs", Edge.NEW, x -> x.reach(0, 0, 0, 0), BAD);
        Edge.taken("to the farthest place", ticks(0), x -> x.reach(0, 0, -300, 300), 307200L * 307200L + 327680L * 327680L);
    }

    /** A limb without weight whose end goes with bar 0 of a cross at the pin: its direction is the tilt and 16. */
    private static PuppetStage turning(int tilt) {
        PuppetStage x = new PuppetStage();
        x.limb(0, -1, 20, 0);
        x.cross(0, 0, 0, tilt);
        x.bar(0, 0, 20, 0);
        x.hold(0, 0, 0, 20, 0);
        int bend = Math.floorMod(tilt + 16 + 32, 64) - 32;
        x.bend(0, 0, bend);
        return x;
    }

    /** '(s is 4 ..)': from tilt 0 it goes by 4, not by 5 and not by 3, to either side. */
    private static void reachFourTilts() {
        PuppetStage x = turning(0);
        due("up", x.reach(0, 0, 0, 300), square(20 * 946, 20 * 392 - 307200));
        due("tilt", x.about(0, 4), 4);
        PuppetStage y = turning(0);
        due("down", y.reach(0, 0, 0, -300), square(20 * 946, 20 * 392 - 307200));
        due("tilt", y.about(0, 4), -4);
        PuppetStage z = turning(4);
        due("straight", z.reach(0, 0, 20, 0), 0);
        due("just within", z.about(0, 4), 0);
        PuppetStage w = turning(-5);
        due("not yet", w.reach(0, 0, 20, 0), square(20 * 1019 - 20480, 20 * 100));
        due("just beyond", w.about(0, 4), -1);
    }

    private static long square(long dx, long dy) {
        return dx * dx + dy * dy;
    }

    /** 'within -32 .. 31': the tilts end there, and do not come round. */
    private static void reachWithinTilts() {
        int[][] greatest = {{26, 30}, {27, 31}, {28, 31}, {31, 31}};
        for (int[] g : greatest) {
            PuppetStage x = turning(g[0]);
            x.reach(0, 0, 0, -300);
            due("the greatest from " + g[0], x.about(0, 4), g[1]);
        }
        int[][] least = {{-27, -31}, {-28, -32}, {-29, -32}, {-32, -32}};
        for (int[] l : least) {
            PuppetStage x = turning(l[0]);
            x.reach(0, 0, 0, 300);
            due("the least from " + l[0], x.about(0, 4), l[1]);
        }
        PuppetStage other = turning(31);
        other.reach(0, 0, 0, 300);
        due("the other way from 31", other.about(0, 4), 27);
        PuppetStage another = turning(-32);
        another.reach(0, 0, 0, -300);
        due("the other way from -32", another.about(0, 4), -28);
    }

    /** '(.. n is 60.)': of 62 steps two are left. */
    private static void reachSixtyTimes() {
        PuppetStage x = new PuppetStage();
        x.limb(0, -1, 10, 1);
        x.limb(0, -1, 10, 1);
        x.bend(0, 0, 31);
        x.bend(0, 1, 31);
        due("reach", x.reach(0, 1, 0, 0), square(10 * 200, 10 * 1004));
        due("limb 0", x.told(0, 0, 3), 0);
        due("limb 1", x.told(0, 1, 3), 2);
        due("not of rest()", x.count(3), 0);
        due("the least tilt", x.about(0, 4), -4);
    }

    /** 'of several the least TILT': all alike, and two alike with others between them. */
    private static void reachLeastTilt() {
        PuppetStage x = turning(0);
        due("left of all", x.reach(0, 0, -300, 0), square(20 * 946 + 307200, 20 * 392));
        due("-4 and 4 are alike", x.about(0, 4), -4);
        PuppetStage y = Tell.made(ticks(0));
        y.cross(0, 5, 6, -30);
        due("all alike", y.reach(0, 0, 0, -20), 0);
        due("the least", y.about(0, 4), -32);
        due("x stays", y.about(0, 2), 5);
        due("y stays", y.about(0, 3), 6);
    }

    /** 'CROSS and BENDS become those': of the first limb and of the sixth, each of which goes with the bar. */
    private static void reachBendsAll() {
        PuppetStage x = new PuppetStage();
        x.cross(0, 0, 0, 0);
        x.bar(0, 0, 20, 0);
        for (int k = 0; k < 6; k++) {
            x.limb(0, -1, 20, 0);
            x.bend(0, k, 16);
            x.hold(0, 0, k, 20, 0);
        }
        due("to the tilt's own place", x.reach(0, 5, 20, 0), 0);
        due("tilt", x.about(0, 4), 0);
        due("reach", x.reach(0, 5, 0, 300), square(20 * 946, 20 * 392 - 307200));
        for (int k = 0; k < 6; k++) {
            due("bend " + k, x.told(0, k, 3), 20);
        }
        due("back", x.reach(0, 0, 20, 0), 0);
        for (int k = 0; k < 6; k++) {
            due("bend " + k, x.told(0, k, 3), 16);
        }
    }
}
