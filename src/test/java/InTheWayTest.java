/** Promises 31 to 35: tangles, limbs that meet, the mirror, undo, count. */
public final class InTheWayTest {
    private static final long BAD = Due.BAD, NO = Due.NO, NONE = Due.NONE;

    public static void main(String[] args) {
        tangle();
        tangleKinds();
        tangleTouching();
        tangleLeast();
        meet();
        meetSlanting();
        meetInOneLine();
        meetLeast();
        mirrorRefused();
        mirrorTurnsAll();
        mirrorOfRest();
        mirrorOfSpans();
        undoEach();
        undoLatestFive();
        undoTicks();
        undoLimbs();
        count();
        Due.finish();
    }

    private static void due(String call, long got, long want) {
        Due.due(call, got, want);
    }

    /** A limb to the right, below the cross; bars 0 and 1 are above its two ends. */
    private static PuppetStage table() {
        PuppetStage x = new PuppetStage();
        x.limb(0, -1, 20, 1);
        x.bend(0, 0, 16);
        x.bar(0, 1, 20, 0);
        x.bar(0, 2, 10, -100);
        x.bar(0, 3, 10, 0);
        return x;
    }

    private static void tangle() {
        PuppetStage x = table();
        due("tangle puppet", x.tangle(2), BAD);
        due("tangle puppet", x.tangle(-1), BAD);
        due("no strings", x.tangle(0), NONE);
        x.hold(0, 0, 0, 20, 0);
        due("one string", x.tangle(0), NONE);
        x.hold(0, 1, 0, 0, 0);
        due("two across", x.tangle(0), 1);
        x.bend(0, 0, -16);
        due("side by side", x.tangle(0), NONE);
    }

    private static void tangleKinds() {
        for (int kind = 0; kind < 5; kind++) {
            PuppetStage x = table();
            x.hold(0, 0, 0, 20, 0);
            x.hold(0, 10 * kind + 1, 0, 0, 0);
            due("string and kind " + kind, x.tangle(0), kind == 4 ? NONE : 1);
            PuppetStage y = table();
            y.hold(0, 10 * kind, 0, 20, 0);
            y.hold(0, 1, 0, 0, 0);
            due("kind " + kind + " and string", y.tangle(0), kind == 4 ? NONE : 1);
        }
        PuppetStage z = table();
        z.hold(0, 10, 0, 0, 0);
        z.hold(0, 1, 0, 0, 0);
        due("the way on of a run tangles with none", z.tangle(0), NONE);
    }

    private static void tangleTouching() {
        PuppetStage x = table();
        x.hold(0, 3, 0, 10, 0);
        x.hold(0, 3, 0, 0, 0);
        due("from one bar", x.tangle(0), NONE);
        x.drop(0, 1);
        x.hold(0, 0, 0, 10, 0);
        due("to one spot", x.tangle(0), NONE);
        x.hold(0, 3, 0, 10, 0);
        due("one on the other", x.tangle(0), NONE);
        PuppetStage y = table();
        y.hold(0, 2, 0, 20, 0);
        y.hold(0, 3, 0, 10, 0);
        due("an end on the other line", y.tangle(0), NONE);
        PuppetStage u = table();
        u.bar(0, 4, 0, -100);
        u.hold(0, 4, 0, 20, 0);
        u.hold(0, 3, 0, 10, 0);
        due("an end inside of the other line", u.tangle(0), NONE);
        u.drop(0, 0);
        u.hold(0, 4, 0, 20, 0);
        due("the other line to that end", u.tangle(0), NONE);
        PuppetStage v = table();
        v.bar(0, 4, 0, -90);
        v.bar(0, 5, 10, -80);
        v.hold(0, 4, 0, 20, 0);
        v.hold(0, 5, 0, 20, 0);
        v.hold(0, 3, 0, 20, 0);
        due("to one end, from both sides", v.tangle(0), NONE);
        PuppetStage t = table();
        t.bar(0, 4, 10, -92);
        t.hold(0, 0, 0, 20, 0);
        t.hold(0, 4, 0, 10, 0);
        due("its line goes on through the other, not it", t.tangle(0), NONE);
        t.drop(0, 0);
        t.hold(0, 0, 0, 20, 0);
        due("the other way about", t.tangle(0), NONE);
        PuppetStage z = table();
        z.bar(0, 4, 10, -90);
        z.hold(0, 3, 0, 10, 0);
        z.hold(0, 4, 0, 10, 0);
        due("one behind the other", z.tangle(0), NONE);
        PuppetStage w = table();
        w.bar(0, 4, 0, -110 + 10);
        w.hold(0, 4, 0, 0, 0);
        w.hold(0, 1, 0, 0, 0);
        due("a string without length", w.tangle(0), NONE);
    }

    private static void tangleLeast() {
        PuppetStage x = table();
        x.hold(0, 40, 0, 0, 0);
        x.hold(0, 0, 0, 0, 0);
        x.hold(0, 0, 0, 15, 0);
        x.hold(0, 1, 0, 5, 0);
        x.hold(0, 1, 0, 4, 0);
        due("2 and 3, ahead of 2 and 4", x.tangle(0), 12 * 2 + 3);
        x.drop(0, 3);
        due("2 and 3 again", x.tangle(0), 12 * 2 + 3);
        x.drop(0, 0);
        due("1 and 2", x.tangle(0), 12 + 2);
        x.drop(0, 2);
        due("none", x.tangle(0), NONE);
    }

    private static void meet() {
        PuppetStage x = new PuppetStage();
        due("no limbs", x.meet(), NONE);
        x.limb(0, -1, 20, 1);
        due("one puppet alone", x.meet(), NONE);
        x.limb(1, -1, 20, 1);
        due("one on the other", x.meet(), 0);
        x.bend(1, 0, 16);
        due("from one pin", x.meet(), 0);
        x.pin(1, -10, -10);
        due("across", x.meet(), 0);
        x.pin(1, -20, -10);
        due("an end on the line", x.meet(), 0);
        x.pin(1, -21, -10);
        due("just not", x.meet(), NONE);
        x.pin(1, 0, -20);
        due("end and beginning", x.meet(), 0);
        x.pin(1, 0, -21);
        due("just below", x.meet(), NONE);
        x.pin(1, -10, 1);
        due("just above", x.meet(), NONE);
        x.limb(0, 0, 20, 1);
        due("limbs of one puppet do not count", x.meet(), NONE);
    }

    /** One upright limb and one that slants down to the right, of either puppet. */
    private static void meetSlanting() {
        for (int slanting = 0; slanting < 2; slanting++) {
            int upright = 1 - slanting;
            PuppetStage x = new PuppetStage();
            x.limb(0, -1, 20, 1);
            x.limb(1, -1, 20, 1);
            x.pin(upright, 1, 10);
            x.bend(slanting, 0, 8);
            x.pin(slanting, -10, 5);
            due("through it", x.meet(), 0);
            x.pin(slanting, -10, 0);
            due("past its lower end", x.meet(), NONE);
            x.pin(slanting, -10, 22);
            due("past its upper end", x.meet(), NONE);
            x.pin(slanting, -10, 21);
            due("on its upper end", x.meet(), 0);
            x.bend(upright, 0, 2);
            x.pin(slanting, -10, 8);
            due("ends just ahead of it", x.meet(), NONE);
            x.pin(slanting, -9, 8);
            due("ends just behind it", x.meet(), 0);
        }
    }

    private static void meetInOneLine() {
        PuppetStage x = new PuppetStage();
        x.limb(0, -1, 20, 1);
        x.limb(1, -1, 20, 1);
        x.pin(1, 0, -10);
        due("in part", x.meet(), 0);
        x.pin(1, 0, -20);
        due("one place in common", x.meet(), 0);
        x.pin(1, 0, -21);
        due("one below the other", x.meet(), NONE);
        x.pin(1, 1, 0);
        due("side by side", x.meet(), NONE);
        x.pin(1, 0, 0);
        x.bend(0, 0, 8);
        x.bend(1, 0, -24);
        due("the two ways from one pin", x.meet(), 0);
        x.pin(1, -1, 1);
        due("in one slanting line, apart", x.meet(), NONE);
    }

    private static void meetLeast() {
        PuppetStage x = new PuppetStage();
        x.pin(1, 0, -50);
        for (int k = 0; k < 3; k++) {
            x.limb(0, k - 1, 10, 1);
            x.limb(1, k - 1, 10, 1);
        }
        due("apart", x.meet(), NONE);
        x.pin(1, 0, -30);
        due("limb 2 and limb 0", x.meet(), 12);
        x.pin(1, 0, 25);
        due("limb 0 and limb 2", x.meet(), 2);
        x.pin(1, 0, 5);
        due("limb 0 and limb 0", x.meet(), 0);
        x.pin(1, -5, -15);
        x.bend(1, 0, 16);
        due("limb 1 and limb 0", x.meet(), 6);
        x.bend(1, 1, 16);
        x.pin(1, -10, -25);
        due("limb 0 and limb 2, ahead of 1 and 1", x.meet(), 2);
        x.pin(1, -10, -20);
        due("limb 0 and limb 1, ahead of 0 and 2", x.meet(), 1);
    }

    private static void mirrorRefused() {
        PuppetStage x = new PuppetStage();
        due("mirror puppet", x.mirror(2), BAD);
        due("mirror puppet", x.mirror(-1), BAD);
        x.cross(0, 0, 0, -32);
        due("tilt", x.mirror(0), NO);
        x.cross(0, 0, 0, -31);
        due("tilt", x.mirror(0), 0);
        due("turned", x.about(0, 4), 31);
        x.limb(0, -1, 5, 5);
        x.limb(0, -1, 5, 5);
        x.bend(0, 0, -32);
        due("bend of the first", x.mirror(0), NO);
        x.bend(0, 0, 0);
        x.bend(0, 1, -32);
        due("bend", x.mirror(0), NO);
        x.lose(0);
        due("a bend that is no more", x.mirror(0), 0);
        x.spans(0, 3);
        due("pairs", x.mirror(0), NO);
        x.span(0, 0, -31, 31);
        x.span(0, 1, -31, 31);
        due("one pair left", x.mirror(0), NO);
        x.span(0, 2, -31, 31);
        due("no pair left", x.mirror(0), 0);
        x.spans(0, 0);
        due("no pairs", x.mirror(0), 0);
        due("no pairs stay", x.about(0, 8), 0);
        x.spans(0, -1);
        due("missing", x.mirror(0), 0);
        due("missing stay", x.about(0, 8), NONE);
        x.tick(0, 0, 0, 0);
        x.tick(0, 0, 0, -32);
        due("tick", x.mirror(0), NO);
        x.calm(0);
        due("no tick", x.mirror(0), 0);
        x.tick(0, 0, 0, 0);
        x.limb(0, 0, 1, 0);
        x.bend(0, 1, -32);
        x.play(0, 1);
        due("pose has it", x.pose(0, 0, 1), -32);
        x.bend(0, 1, 0);
        due("pose", x.mirror(0), NO);
        due("the other has none of it", x.mirror(1), 0);
        x.tick(0, 0, 0, 0);
        due("no poses any more", x.mirror(0), 0);
    }

    private static void mirrorTurnsAll() {
        PuppetStage x = new PuppetStage();
        x.pin(0, 11, 12);
        x.limb(0, -1, 13, 14);
        x.limb(0, 0, 15, 16);
        x.bend(0, 0, 5);
        x.bend(0, 1, -6);
        x.bar(0, 0, 7, 8);
        x.bar(0, 5, -9, 10);
        x.hold(0, 20, 1, 3, 150);
        x.pluck(0, 0, 4);
        x.tick(0, 1, 2, 3);
        x.tick(0, -4, 5, -6);
        x.play(0, 1);
        long[] bends = {x.told(0, 0, 3), x.told(0, 1, 3)};
        long[] posed = {x.pose(0, 0, 0), x.pose(0, 0, 1), x.pose(0, 1, 0), x.pose(0, 1, 1)};
        long excess = x.lies(0, 0);
        long depth = x.lies(0, 1);
        long far = x.holds(0, 0, 6);
        long endX = x.at(0, 1, 15, 0);
        long endY = x.at(0, 1, 15, 1);
        long barX = x.barAt(0, 5, 0);
        long barY = x.barAt(0, 5, 1);
        due("mirror", x.mirror(0), 0);
        due("pin x", x.about(0, 9), -11);
        due("pin y", x.about(0, 10), 12);
        due("cross x", x.about(0, 2), 4);
        due("cross y", x.about(0, 3), 5);
        due("tilt", x.about(0, 4), 6);
        due("hand", x.about(0, 5), 1);
        due("bend 0", x.told(0, 0, 3), -bends[0]);
        due("bend 1", x.told(0, 1, 3), -bends[1]);
        due("pose 0 limb 0", x.pose(0, 0, 0), -posed[0]);
        due("pose 0 limb 1", x.pose(0, 0, 1), -posed[1]);
        due("pose 1 limb 0", x.pose(0, 1, 0), -posed[2]);
        due("pose 1 limb 1", x.pose(0, 1, 1), -posed[3]);
        due("excess", x.lies(0, 0), excess);
        due("depth", x.lies(0, 1), depth);
        due("far", x.holds(0, 0, 6), far);
        due("taken", x.holds(0, 0, 5), 4);
        due("end x", x.at(0, 1, 15, 0), -endX);
        due("end y", x.at(0, 1, 15, 1), endY);
        due("bar x", x.barAt(0, 5, 0), -barX);
        due("bar y", x.barAt(0, 5, 1), barY);
        due("the other's hand", x.about(1, 5), 0);
        due("play the turned gesture", x.play(0, 1) >= 0 ? 1 : 0, 1);
        due("its tilt", x.about(0, 4), 6);
        due("its x", x.about(0, 2), 4);
    }

    /** To rest and then turn is to turn and then rest, where no bend may be -32. */
    private static void mirrorOfRest() {
        for (int steps = 1; steps < 40; steps += 6) {
            PuppetStage x = leaning();
            PuppetStage y = leaning();
            long done = x.rest(0, steps);
            x.mirror(0);
            y.mirror(0);
            due("as many changes", y.rest(0, steps), done);
            due("in part", done, steps);
            for (int k = 0; k < 3; k++) {
                due("bend " + k, y.told(0, k, 3), x.told(0, k, 3));
            }
        }
    }

    private static PuppetStage leaning() {
        PuppetStage x = new PuppetStage();
        x.spans(0, 3);
        for (int k = 0; k < 3; k++) {
            x.span(0, k, -31, 31);
        }
        x.pin(0, 10, 60);
        x.limb(0, -1, 20, 3);
        x.limb(0, 0, 25, 1);
        x.limb(0, 1, 10, 2);
        x.cross(0, -5, 90, 5);
        x.bar(0, 0, 30, 2);
        x.bar(0, 1, -30, 4);
        x.hold(0, 0, 2, 10, 50);
        x.hold(0, 31, 1, 25, 70);
        x.hold(0, 40, 2, 10, 0);
        x.bend(0, 0, -7);
        x.bend(0, 2, 9);
        return x;
    }

    private static void mirrorOfSpans() {
        PuppetStage x = new PuppetStage();
        x.limb(0, -1, 5, 5);
        x.limb(0, 0, 5, 5);
        x.spans(0, 2);
        x.span(0, 0, -3, 31);
        x.span(0, 1, 0, 0);
        due("mirror", x.mirror(0), 0);
        due("least", x.told(0, 0, 5), -31);
        due("greatest", x.told(0, 0, 6), 3);
        due("least", x.told(0, 1, 5), 0);
        due("greatest", x.told(0, 1, 6), 0);
        due("mirror back", x.mirror(0), 0);
        due("hand", x.about(0, 5), 0);
        due("least", x.told(0, 0, 5), -3);
        due("greatest", x.told(0, 0, 6), 31);
    }

    /** Each kind of change is taken back. */
    private static void undoEach() {
        for (int change = 0; change < 17; change++) {
            PuppetStage x = leaning();
            x.hold(0, 22, 0, 5, 40);
            x.tick(0, 3, 4, 5);
            x.limb(1, -1, 10, 10);
            x.bend(1, 0, 7);
            String before = tell(x);
            Due.isTrue("change " + change + " is done", change(x, change) > -1000000000L);
            Due.isTrue("change " + change + " is seen", !tell(x).equals(before));
            due("undo change " + change, x.undo(), 4);
            Due.isTrue("change " + change + " is taken back", tell(x).equals(before));
        }
    }

    private static long change(PuppetStage x, int change) {
        switch (change) {
            case 0: return x.limb(0, 2, 7, 7);
            case 1: return x.lose(0);
            case 2: return x.pin(0, 77, 78);
            case 3: return x.spans(0, 2);
            case 4: return x.span(0, 2, -19, 19);
            case 5: return x.cross(0, 7, 8, 9);
            case 6: return x.bar(0, 1, 50, 51);
            case 7: return x.hold(0, 3, 1, 2, 3);
            case 8: return x.drop(0, 1);
            case 9: return x.pluck(0, 3, 11);
            case 10: return x.bend(0, 1, 13);
            case 11: return x.hand(0, 1);
            case 12: return x.rest(0, 5);
            case 13: return x.lowest(1);
            case 14: return x.play(0, 3);
            case 15: return x.reach(0, 2, 100, 100);
            default: return x.mirror(1);
        }
    }

    /** All that there is to tell, but for later poses. */
    private static String tell(PuppetStage x) {
        StringBuilder told = new StringBuilder();
        for (int puppet = 0; puppet < 2; puppet++) {
            for (int what = 0; what < 11; what++) {
                told.append(x.about(puppet, what)).append(' ');
            }
            for (int limb = 0; limb < x.about(puppet, 0); limb++) {
                for (int what = 0; what < 7; what++) {
                    told.append(x.told(puppet, limb, what)).append(' ');
                }
                told.append(x.pose(puppet, 0, limb)).append(' ');
            }
            for (int hold = 0; hold < x.about(puppet, 1); hold++) {
                for (int what = 0; what < 9; what++) {
                    told.append(x.holds(puppet, hold, what)).append(' ');
                }
            }
            for (int bar = 0; bar < 6; bar++) {
                told.append(x.barAt(puppet, bar, 0)).append(' ').append(x.barAt(puppet, bar, 1)).append(' ');
            }
        }
        return told.toString();
    }

    private static void undoLatestFive() {
        PuppetStage x = new PuppetStage();
        for (int k = 1; k <= 7; k++) {
            x.pin(k % 2, k, k);
            due("kept", x.count(2), Math.min(k, 5));
        }
        due("refused calls are none", x.pin(0, 301, 0), BAD);
        for (int k = 4; k >= 0; k--) {
            due("undo", x.undo(), k);
            due("kept", x.count(2), k);
            long latest = 2 + k;
            due("pin x", x.about((int) latest % 2, 9), latest);
            due("the other's pin", x.about((int) (latest + 1) % 2, 9), latest - 1);
        }
        due("undo none", x.undo(), NO);
        due("pin x", x.about(0, 9), 2);
        due("pin x", x.about(1, 9), 1);
        x.pin(0, 8, 8);
        due("kept again", x.count(2), 1);
        due("undo again", x.undo(), 0);
        due("pin x", x.about(0, 9), 2);
    }

    /** Ticks are no changes, yet are as they were ahead of the change that is taken back. */
    private static void undoTicks() {
        PuppetStage x = new PuppetStage();
        x.tick(0, 0, 0, 0);
        x.pin(0, 1, 1);
        x.tick(0, 0, 0, 0);
        x.tick(1, 0, 0, 0);
        due("kept", x.count(2), 1);
        due("undo", x.undo(), 0);
        due("ticks", x.about(0, 6), 1);
        due("the other's ticks", x.about(1, 6), 0);
        PuppetStage y = new PuppetStage();
        y.limb(0, -1, 20, 1);
        y.bend(0, 0, 9);
        y.tick(0, 7, 8, 9);
        y.play(0, 1);
        y.pin(0, 1, 1);
        y.calm(0);
        y.tick(0, 17, 18, 19);
        y.play(0, 1);
        due("undo the second play", y.undo(), 4);
        due("undo the pin", y.undo(), 3);
        due("the pose is back", y.pose(0, 0, 0), 8);
        due("play", y.play(0, 1), 1);
        due("the tick's x is back", y.about(0, 2), 7);
        due("its y", y.about(0, 3), 8);
        due("its tilt", y.about(0, 4), 9);
    }

    /** What a limb was is back after another one stood in its place. */
    private static void undoLimbs() {
        PuppetStage x = new PuppetStage();
        x.limb(0, -1, 20, 1);
        x.limb(0, 0, 21, 2);
        x.bend(0, 1, 5);
        x.lose(0);
        x.limb(0, -1, 30, 3);
        due("undo limb", x.undo(), 4);
        due("undo lose", x.undo(), 3);
        due("length", x.told(0, 1, 0), 21);
        due("weight", x.told(0, 1, 1), 2);
        due("parent", x.told(0, 1, 2), 0);
        due("bend", x.told(0, 1, 3), 5);
    }

    private static void count() {
        PuppetStage x = new PuppetStage();
        due("count -1", x.count(-1), BAD);
        due("count 4", x.count(4), BAD);
        due("count low", x.count(Integer.MIN_VALUE), BAD);
        x.limb(0, -1, 10, 1);
        x.limb(0, -1, 10, 1);
        x.limb(1, -1, 10, 1);
        due("limbs", x.count(0), 3);
        x.hold(0, 0, 0, 0, 0);
        x.hold(1, 0, 0, 0, 0);
        x.hold(1, 40, 0, 0, 0);
        due("holds", x.count(1), 3);
        x.bend(0, 0, 3);
        x.bend(1, 0, 4);
        due("rest", x.rest(0, 2), 2);
        due("rest of the other", x.rest(1, 300), 4);
        due("changes of rests", x.count(3), 6);
        x.undo();
        x.undo();
        due("undone ones, too", x.count(3), 6);
        due("rest again", x.rest(0, 300), 3);
        due("changes of rests", x.count(3), 9);
    }
}
