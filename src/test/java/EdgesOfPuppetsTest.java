/** Promises 1 to 14: every sentence that names a boundary case. */
public final class EdgesOfPuppetsTest {
    private static final long BAD = Due.BAD, NO = Due.NO, FULL = Due.FULL, NOTHING = Due.NOTHING, INDEX = Due.INDEX, NONE = Due.NONE;

    /** Two limbs and no spans. */
    private static final Tell.Scene TWO_LIMBS = x -> {
        for (int p = 0; p < 2; p++) {
            x.limb(p, -1, 10, 5);
            x.limb(p, 0, 100, 50);
        }
    };

    public static void main(String[] args) {
        newObjectIsEmpty();
        limbNumbers();
        limbParents();
        limbWithinItsSpan();
        limbsAreFull();
        limbRefusalsInOrder();
        limbEndsPoses();
        loseNone();
        loseToTheFirst();
        loseTakesHolds();
        pinNumbers();
        spansNumbers();
        spansCounts();
        spansBeyond();
        spanPairs();
        spanNumbers();
        spanOfTheBend();
        spanRefusalsInOrder();
        crossNumbers();
        barNumbers();
        bendLimbs();
        bendWithinItsSpan();
        handNumbers();
        aboutNumbers();
        toldNumbers();
        atNumbers();
        barAtNumbers();
        Due.finish();
    }

    private static void due(String call, long got, long want) {
        Due.due(call, got, want);
    }

    /** Promise 1: 'As told: no LIMBS, no HOLDS', and so nothing that asks for one finds one. */
    private static void newObjectIsEmpty() {
        for (int p = 0; p < 2; p++) {
            int puppet = p;
            Edge.refused("lose", Edge.NEW, x -> x.lose(puppet), NO);
            Edge.refused("bend", Edge.NEW, x -> x.bend(puppet, 0, 0), BAD);
            Edge.refused("told", Edge.NEW, x -> x.told(puppet, 0, 0), BAD);
            Edge.refused("told -1", Edge.NEW, x -> x.told(puppet, -1, 0), BAD);
            Edge.refused("at", Edge.NEW, x -> x.at(puppet, 0, 0, 0), BAD);
            Edge.refused("hold", Edge.NEW, x -> x.hold(puppet, 0, 0, 0, 0), BAD);
            Edge.refused("drop", Edge.NEW, x -> x.drop(puppet, 0), BAD);
            Edge.refused("pluck", Edge.NEW, x -> x.pluck(puppet, 0, 0), BAD);
            Edge.refused("holds", Edge.NEW, x -> x.holds(puppet, 0, 0), BAD);
            Edge.refused("isOf", Edge.NEW, x -> x.isOf(puppet, 0, 0), BAD);
            Edge.refused("lowest", Edge.NEW, x -> x.lowest(puppet), NO);
            Edge.refused("play", Edge.NEW, x -> x.play(puppet, 1), NO);
            Edge.refused("pose", Edge.NEW, x -> x.pose(puppet, 0, 0), BAD);
            Edge.refused("round", Edge.NEW, x -> x.round(puppet), NO);
            Edge.refused("reach", Edge.NEW, x -> x.reach(puppet, 0, 0, 0), BAD);
            Edge.taken("why", Edge.NEW, x -> x.why(puppet), NONE);
            Edge.taken("tangle", Edge.NEW, x -> x.tangle(puppet), NONE);
            Edge.taken("isStill", Edge.NEW, x -> x.isStill(puppet), 1);
            Edge.taken("rest", Edge.NEW, x -> x.rest(puppet, 300), 0);
            Edge.taken("calm", Edge.NEW, x -> x.calm(puppet), 0);
            Edge.taken("mirror", Edge.NEW, x -> x.mirror(puppet), 0);
            for (int what = 0; what < 4; what++) {
                int asked = what;
                Edge.taken("lies", Edge.NEW, x -> x.lies(puppet, asked), 0);
            }
        }
        Edge.taken("meet", Edge.NEW, x -> x.meet(), NONE);
        Edge.refused("undo", Edge.NEW, x -> x.undo(), NO);
    }

    /** Promise 2: 'BAD: puppet, .. length, weight', of 'a LENGTH (1 .. 100 units), a WEIGHT (0 .. 50)'. */
    private static void limbNumbers() {
        Edge.puppets("limb", Edge.LIVELY, (x, n) -> x.limb(n, -1, 5, 5));
        Edge.kept("limb length", Edge.LIVELY, (x, n) -> x.limb(0, 2, n, 5), x -> x.told(0, 3, 0), 1, 100);
        Edge.kept("limb weight", Edge.LIVELY, (x, n) -> x.limb(1, 2, 5, n), x -> x.told(1, 3, 1), 0, 50);
        Edge.taken("its number", Edge.LIVELY, x -> x.limb(0, 2, 5, 5), 3);
        Edge.taken("the first number", Edge.NEW, x -> x.limb(1, -1, 5, 5), 0);
    }

    /** 'parent (-1, or a LIMB that there is)': of an empty puppet only -1; a limb is not its own. */
    private static void limbParents() {
        Edge.kept("limb parent", Edge.LIVELY, (x, n) -> x.limb(0, n, 5, 5), x -> x.told(0, 3, 2), -1, 2);
        Edge.kept("first limb's parent", Edge.NEW, (x, n) -> x.limb(0, n, 5, 5), x -> x.told(0, 0, 2), -1, -1);
        Edge.refused("a limb of the other puppet", x -> x.limb(1, -1, 5, 5), x -> x.limb(0, 0, 5, 5), BAD);
        Edge.refused("a limb that is lost", x -> {
            x.limb(0, -1, 5, 5);
            x.limb(0, -1, 5, 5);
            x.lose(0);
        }, x -> x.limb(0, 1, 5, 5), BAD);
    }

    /** 'NO: a BEND of 0 is not within its SPAN', by one step, on each side. */
    private static void limbWithinItsSpan() {
        Edge.refused("1 .. 31", spanned(1, 31), x -> x.limb(0, 0, 5, 5), NO);
        Edge.refused("1 .. 1", spanned(1, 1), x -> x.limb(0, 0, 5, 5), NO);
        Edge.refused("-32 .. -1", spanned(-32, -1), x -> x.limb(0, 0, 5, 5), NO);
        Edge.taken("0 .. 31", spanned(0, 31), x -> x.limb(0, 0, 5, 5), 1);
        Edge.taken("-32 .. 0", spanned(-32, 0), x -> x.limb(0, 0, 5, 5), 1);
        Edge.taken("0 .. 0", spanned(0, 0), x -> x.limb(0, 0, 5, 5), 1);
        Edge.taken("the limb beyond the pairs", x -> {
            x.limb(0, -1, 5, 5);
            x.spans(0, 1);
        }, x -> x.limb(0, 0, 5, 5), 1);
        Edge.taken("the other puppet's limb", spanned(1, 31), x -> {
            x.limb(1, -1, 5, 5);
            return x.limb(1, 0, 5, 5);
        }, 1);
    }

    /** Puppet 0 has limb 0, and spans of which pair 1 is told. */
    private static Tell.Scene spanned(int least, int greatest) {
        return x -> {
            x.limb(0, -1, 5, 5);
            x.spans(0, 2);
            x.span(0, 1, least, greatest);
        };
    }

    private static Tell.Scene limbs(int n) {
        return x -> {
            for (int k = 0; k < n; k++) {
                x.limb(0, k - 1, 5, 5);
            }
        };
    }

    /** 'up to 6 LIMBS', 'FULL': the sixth is taken, the seventh is not, each puppet has its own. */
    private static void limbsAreFull() {
        Edge.taken("the sixth", limbs(5), x -> x.limb(0, -1, 5, 5), 5);
        Edge.refused("the seventh", limbs(6), x -> x.limb(0, -1, 5, 5), FULL);
        Edge.taken("the other's first", limbs(6), x -> x.limb(1, -1, 5, 5), 0);
        Edge.taken("the sixth again", limbs(6), x -> {
            x.lose(0);
            return x.limb(0, 4, 7, 7);
        }, 5);
        Edge.refused("all pairs told", x -> {
            limbs(6).set(x);
            x.spans(0, 6);
        }, x -> x.limb(0, 5, 5, 5), FULL);
    }

    /** BAD stands ahead of NO and of FULL. */
    private static void limbRefusalsInOrder() {
        Edge.refused("parent ahead of NO", spanned(1, 31), x -> x.limb(0, 1, 5, 5), BAD);
        Edge.refused("length ahead of NO", spanned(1, 31), x -> x.limb(0, 0, 101, 5), BAD);
        Edge.refused("weight ahead of NO", spanned(1, 31), x -> x.limb(0, 0, 5, 51), BAD);
        Edge.refused("parent ahead of FULL", limbs(6), x -> x.limb(0, 6, 5, 5), BAD);
        Edge.refused("length ahead of FULL", limbs(6), x -> x.limb(0, 5, 0, 5), BAD);
        Edge.refused("weight ahead of FULL", limbs(6), x -> x.limb(0, 5, 5, -1), BAD);
    }

    /** 'POSES are none then', the ticks stay, and the other puppet's poses stay, too. */
    private static void limbEndsPoses() {
        PuppetStage x = Tell.made(Edge.LIVELY);
        due("poses", x.about(0, 7), 3);
        due("limb", x.limb(0, 2, 5, 5), 3);
        due("no poses", x.about(0, 7), 0);
        due("no pose", x.pose(0, 0, 0), NONE);
        due("not round", x.round(0), NO);
        due("ticks", x.about(0, 6), 3);
        due("the other's", x.about(1, 7), 3);
        due("undo", x.undo(), 4);
        due("poses are back", x.about(0, 7), 3);
    }

    /** Promise 3: 'BAD; NO: there is none'. */
    private static void loseNone() {
        Edge.puppets("lose", Edge.LIVELY, (x, n) -> x.lose(n));
        Edge.refused("lose none", limbs(3), x -> x.lose(1), NO);
        Edge.refused("lose one more", x -> {
            limbs(1).set(x);
            x.lose(0);
        }, x -> x.lose(0), NO);
    }

    /** 'The last LIMB is no more .. POSES are none: its LENGTH', down to the very first. */
    private static void loseToTheFirst() {
        PuppetStage x = Tell.made(Edge.LIVELY);
        int[] lengths = {12, 25, 30};
        for (int k = 0; k < 3; k++) {
            due("lose", x.lose(0), lengths[k]);
            due("limbs", x.about(0, 0), 2 - k);
            due("it is no more", x.told(0, 2 - k, 0), BAD);
            due("no poses", x.about(0, 7), 0);
        }
        due("lose none", x.lose(0), NO);
        due("the other's limbs", x.about(1, 0), 3);
        due("the other's poses", x.about(1, 7), 3);
        due("ticks", x.about(0, 6), 3);
    }

    /** 'with all HOLDS on it (those behind come one number ahead for each)': first, last and side by side. */
    private static void loseTakesHolds() {
        PuppetStage x = Tell.made(TWO_LIMBS);
        int[] on = {1, 1, 0, 1, 0, 0, 1, 1, 1, 0, 1, 1};
        for (int h = 0; h < 12; h++) {
            due("hold " + h, x.hold(0, 20, on[h], h % 10, 100 + h), h);
            x.pluck(0, h, 50 + h);
        }
        x.hold(1, 0, 1, 0, 33);
        due("lose", x.lose(0), 100);
        due("holds", x.about(0, 1), 4);
        int[] left = {2, 4, 5, 9};
        for (int h = 0; h < 4; h++) {
            due("limb", x.holds(0, h, 1), 0);
            due("spot", x.holds(0, h, 2), left[h]);
            due("L", x.holds(0, h, 4), 100 + left[h]);
            due("taken", x.holds(0, h, 5), 50 + left[h]);
        }
        due("no fifth", x.holds(0, 4, 0), BAD);
        due("the other's", x.about(1, 1), 1);
        due("a hold more", x.hold(0, 20, 0, 1, 9), 4);
        due("nothing taken", x.holds(0, 4, 5), 0);
        due("lose the first", x.lose(0), 10);
        due("no holds", x.about(0, 1), 0);
    }

    /** Promise 4: 'at a place (units, -300 .. 300)'. */
    private static void pinNumbers() {
        Edge.puppets("pin", Edge.LIVELY, (x, n) -> x.pin(n, 1, 2));
        Edge.kept("pin x", Edge.LIVELY, (x, n) -> x.pin(0, n, 2), x -> x.about(0, 9), -300, 300);
        Edge.kept("pin y", Edge.LIVELY, (x, n) -> x.pin(1, 1, n), x -> x.about(1, 10), -300, 300);
        Edge.taken("pin", Edge.LIVELY, x -> x.pin(0, -300, 300), 0);
    }

    /** Promise 5: '(n 0 .. 6), or (n = -1) MISSING: n'. */
    private static void spansNumbers() {
        Edge.puppets("spans", Edge.LIVELY, (x, n) -> x.spans(n, 2));
        Edge.bounds("spans", Edge.LIVELY, (x, n) -> x.spans(0, n), -1, 6, BAD);
        for (int k = -1; k <= 6; k++) {
            int n = k;
            Edge.taken("spans " + n, Edge.LIVELY, x -> x.spans(0, n), n);
            Edge.taken("told " + n, Edge.LIVELY, x -> {
                x.spans(0, n);
                return x.about(0, 8);
            }, n < 0 ? NONE : n);
        }
    }

    /** With n pairs the pairs 0 .. n - 1 are there, -32, 31 each, whatever they were. */
    private static void spansCounts() {
        for (int n = 0; n <= 6; n++) {
            PuppetStage x = Tell.made(limbs(6));
            x.spans(0, 6);
            for (int k = 0; k < 6; k++) {
                x.span(0, k, -k, k);
            }
            x.spans(0, n);
            for (int k = 0; k < 6; k++) {
                due("least " + k, x.told(0, k, 5), -32);
                due("greatest " + k, x.told(0, k, 6), 31);
                due("pair " + k + " of " + n, x.span(0, k, -1, 1), k < n ? 0 : INDEX);
            }
            due("no other's", x.about(1, 8), NONE);
        }
    }

    /** 'LIMBS beyond may bend -32 .. 31'; pairs of no limb wait for theirs; MISSING forgets them. */
    private static void spansBeyond() {
        PuppetStage x = Tell.made(limbs(2));
        x.spans(0, 1);
        x.span(0, 0, -2, 2);
        due("within the pair", x.bend(0, 0, 3), NO);
        due("beyond the pairs", x.bend(0, 1, 31), 0);
        due("beyond the pairs", x.bend(0, 1, -32), 31);
        due("beyond the pairs", x.bend(0, 1, 32), NO);
        x.spans(0, -1);
        due("missing", x.bend(0, 0, 31), 0);
        due("missing", x.bend(0, 0, -32), 31);
        due("no pairs at all", x.spans(0, 0), 0);
        due("no pairs", x.bend(0, 0, 31), -32);
        due("no pairs", x.bend(0, 0, -33), NO);
    }

    /** Promise 6: 'INDEX: there is no such pair', for every number of pairs. */
    private static void spanPairs() {
        Edge.puppets("span", Edge.LIVELY, (x, n) -> x.span(n, 3, -5, 5));
        Edge.bounds("span of 4 pairs", Edge.LIVELY, (x, n) -> x.span(0, n, -20, 20), 0, 3, INDEX);
        Edge.bounds("span of 6 pairs", x -> x.spans(0, 6), (x, n) -> x.span(0, n, -5, 5), 0, 5, INDEX);
        Edge.bounds("span of 1 pair", x -> x.spans(0, 1), (x, n) -> x.span(0, n, -5, 5), 0, 0, INDEX);
        Edge.refused("span of 0 pairs", x -> x.spans(0, 0), x -> x.span(0, 0, -5, 5), INDEX);
        Edge.refused("span of 0 pairs", x -> x.spans(0, 0), x -> x.span(0, -1, -5, 5), INDEX);
        Edge.refused("NOTHING: SPANS are MISSING", limbs(2), x -> x.span(0, 0, -5, 5), NOTHING);
        Edge.refused("missing again", x -> {
            x.spans(0, 3);
            x.spans(0, -1);
        }, x -> x.span(0, 0, -5, 5), NOTHING);
        Edge.refused("the other's are missing", x -> x.spans(0, 3), x -> x.span(1, 0, -5, 5), NOTHING);
    }

    /** '(-32 .. 31, the first not above the second)'. */
    private static void spanNumbers() {
        Tell.Scene oneLimb = x -> {
            limbs(1).set(x);
            x.spans(0, 1);
        };
        Edge.kept("least", oneLimb, (x, n) -> x.span(0, 0, n, 0), x -> x.told(0, 0, 5), -32, 0);
        Edge.kept("greatest", oneLimb, (x, n) -> x.span(0, 0, 0, n), x -> x.told(0, 0, 6), 0, 31);
        Tell.Scene noLimb = x -> x.spans(0, 1);
        Edge.bounds("least up to the greatest", noLimb, (x, n) -> x.span(0, 0, n, 31), -32, 31, BAD);
        Edge.bounds("greatest down to the least", noLimb, (x, n) -> x.span(0, 0, -32, n), -32, 31, BAD);
        Edge.bounds("least below 7", noLimb, (x, n) -> x.span(0, 0, n, 7), -32, 7, BAD);
        Edge.bounds("greatest above -7", noLimb, (x, n) -> x.span(0, 0, -7, n), -7, 31, BAD);
        Edge.taken("both alike", noLimb, x -> x.span(0, 0, 7, 7), 0);
    }

    /** 'NO: the BEND of that LIMB (if there is one) would be out of it', by one step, on each side. */
    private static void spanOfTheBend() {
        Tell.Scene bent = x -> {
            limbs(2).set(x);
            x.bend(0, 0, 31);
            x.bend(0, 1, 4);
            x.spans(0, 3);
        };
        Edge.taken("the greatest is the bend", bent, x -> x.span(0, 1, -32, 4), 0);
        Edge.refused("the greatest is below the bend", bent, x -> x.span(0, 1, -32, 3), NO);
        Edge.taken("the least is the bend", bent, x -> x.span(0, 1, 4, 31), 0);
        Edge.refused("the least is above the bend", bent, x -> x.span(0, 1, 5, 31), NO);
        Edge.taken("just the bend", bent, x -> x.span(0, 1, 4, 4), 0);
        Edge.taken("just the greatest bend", bent, x -> x.span(0, 0, 31, 31), 0);
        Edge.refused("below the greatest bend", bent, x -> x.span(0, 0, -32, 30), NO);
        Edge.taken("of no limb", bent, x -> x.span(0, 2, 5, 6), 0);
        Edge.taken("of no limb, least alike", bent, x -> x.span(0, 2, -32, -32), 0);
        Edge.taken("of a limb that is lost", x -> {
            bent.set(x);
            x.lose(0);
        }, x -> x.span(0, 1, 5, 6), 0);
    }

    /** BAD ahead of NOTHING, INDEX and NO; NOTHING ahead of INDEX and NO; INDEX ahead of NO. */
    private static void spanRefusalsInOrder() {
        Tell.Scene missing = x -> {
            limbs(2).set(x);
            x.bend(0, 1, 9);
        };
        Tell.Scene onePair = x -> {
            missing.set(x);
            x.bend(0, 0, 9);
            x.spans(0, 1);
        };
        Edge.refused("BAD ahead of NOTHING", missing, x -> x.span(0, 0, -33, 5), BAD);
        Edge.refused("BAD ahead of NOTHING", missing, x -> x.span(0, 0, 5, 32), BAD);
        Edge.refused("BAD ahead of NOTHING", missing, x -> x.span(0, 0, 5, 4), BAD);
        Edge.refused("BAD ahead of INDEX", onePair, x -> x.span(0, 1, 5, 4), BAD);
        Edge.refused("BAD ahead of NO", onePair, x -> x.span(0, 0, 5, 4), BAD);
        Edge.refused("BAD ahead of NO", onePair, x -> x.span(0, 0, 10, 32), BAD);
        Edge.refused("NOTHING ahead of INDEX", missing, x -> x.span(0, 6, 0, 1), NOTHING);
        Edge.refused("NOTHING ahead of INDEX", missing, x -> x.span(0, -1, 0, 1), NOTHING);
        Edge.refused("NOTHING ahead of NO", missing, x -> x.span(0, 1, 0, 1), NOTHING);
        Edge.refused("INDEX ahead of NO", onePair, x -> x.span(0, 1, 0, 1), INDEX);
        Edge.refused("NO", onePair, x -> x.span(0, 0, 0, 1), NO);
    }

    /** Promise 7: '(units, -300 .. 300 both ..), with a TILT (-32 .. 31 ..)'. */
    private static void crossNumbers() {
        Edge.puppets("cross", Edge.LIVELY, (x, n) -> x.cross(n, 1, 2, 3));
        Edge.kept("cross x", Edge.LIVELY, (x, n) -> x.cross(0, n, 2, 3), x -> x.about(0, 2), -300, 300);
        Edge.kept("cross y", Edge.LIVELY, (x, n) -> x.cross(1, 1, n, 3), x -> x.about(1, 3), -300, 300);
        Edge.kept("cross tilt", Edge.LIVELY, (x, n) -> x.cross(0, 1, 2, n), x -> x.about(0, 4), -32, 31);
        Edge.taken("cross", Edge.LIVELY, x -> x.cross(1, 300, -300, -32), 0);
    }

    /** Promise 8: 'BARS 0 .. 5: places (a, b) on it, -100 .. 100 both'. */
    private static void barNumbers() {
        Edge.puppets("bar", Edge.LIVELY, (x, n) -> x.bar(n, 1, 2, 3));
        Edge.bounds("bar k", Edge.LIVELY, (x, n) -> x.bar(0, n, 2, 3), 0, 5, BAD);
        Edge.bounds("bar a", Edge.LIVELY, (x, n) -> x.bar(0, 1, n, 3), -100, 100, BAD);
        Edge.bounds("bar b", Edge.LIVELY, (x, n) -> x.bar(0, 1, 2, n), -100, 100, BAD);
        for (int k = 0; k < 6; k++) {
            PuppetStage x = new PuppetStage();
            due("bar", x.bar(0, k, -100, 100), 0);
            for (int other = 0; other < 6; other++) {
                due("x", x.barAt(0, other, 0), other == k ? -102400 : 0);
                due("y", x.barAt(0, other, 1), other == k ? 204800 : 102400);
                due("the other's x", x.barAt(1, other, 0), 0);
            }
            due("bar", x.bar(0, k, 100, -100), 0);
            due("x", x.barAt(0, k, 0), 102400);
            due("y", x.barAt(0, k, 1), 0);
        }
    }

    /** Promise 9: 'BAD: puppet, limb', ahead of NO. */
    private static void bendLimbs() {
        Edge.puppets("bend", Edge.LIVELY, (x, n) -> x.bend(n, 1, 3));
        Edge.bounds("bend limb", Edge.LIVELY, (x, n) -> x.bend(0, n, 3), 0, 2, BAD);
        Edge.bounds("bend the sixth limb", limbs(6), (x, n) -> x.bend(0, n, 3), 0, 5, BAD);
        Edge.refused("BAD ahead of NO", Edge.LIVELY, x -> x.bend(0, 3, 10), BAD);
        Edge.refused("BAD ahead of NO", Edge.LIVELY, x -> x.bend(0, -1, 32), BAD);
    }

    /** 'NO: it is not within its SPAN': the pair's, or -32 .. 31 where there is none. */
    private static void bendWithinItsSpan() {
        Edge.bounds("missing", TWO_LIMBS, (x, n) -> x.bend(0, 1, n), -32, 31, NO);
        Edge.bounds("a pair", Edge.LIVELY, (x, n) -> x.bend(0, 1, n), -15, 15, NO);
        Edge.bounds("no pairs", x -> {
            TWO_LIMBS.set(x);
            x.spans(1, 0);
        }, (x, n) -> x.bend(1, 0, n), -32, 31, NO);
        Edge.bounds("a limb beyond the pairs", x -> {
            TWO_LIMBS.set(x);
            x.spans(1, 1);
            x.span(1, 0, 0, 0);
        }, (x, n) -> x.bend(1, 1, n), -32, 31, NO);
        Edge.bounds("one step alone", x -> {
            TWO_LIMBS.set(x);
            x.spans(1, 1);
            x.span(1, 0, 0, 0);
        }, (x, n) -> x.bend(1, 0, n), 0, 0, NO);
        PuppetStage x = Tell.made(TWO_LIMBS);
        due("what it was at first", x.bend(0, 1, -32), 0);
        due("what it was", x.bend(0, 1, 31), -32);
        due("what it was", x.bend(0, 1, 31), 31);
        due("the other limb's", x.told(0, 0, 3), 0);
        due("the other's", x.told(1, 1, 3), 0);
    }

    /** Promise 10: 'HAND is 0 or 1'. */
    private static void handNumbers() {
        Edge.puppets("hand", Edge.LIVELY, (x, n) -> x.hand(n, 1));
        Edge.kept("hand", Edge.LIVELY, (x, n) -> x.hand(0, n), x -> x.about(0, 5), 0, 1);
    }

    /** Promise 11: what 0 .. 10. */
    private static void aboutNumbers() {
        Edge.puppets("about", Edge.LIVELY, (x, n) -> x.about(n, 0));
        Edge.bounds("about", Edge.LIVELY, (x, n) -> x.about(0, n), 0, 10, BAD);
        Edge.taken("missing", Edge.NEW, x -> x.about(0, 8), NONE);
        Edge.taken("no pairs are not missing", x -> x.spans(0, 0), x -> x.about(0, 8), 0);
        Edge.taken("full of limbs", limbs(6), x -> x.about(0, 0), 6);
    }

    /** Promise 12: what 0 .. 6, of a limb that there is. */
    private static void toldNumbers() {
        Edge.puppets("told", Edge.LIVELY, (x, n) -> x.told(n, 0, 0));
        Edge.bounds("told limb", Edge.LIVELY, (x, n) -> x.told(0, n, 0), 0, 2, BAD);
        Edge.bounds("told limb of six", limbs(6), (x, n) -> x.told(0, n, 0), 0, 5, BAD);
        Edge.bounds("told what", Edge.LIVELY, (x, n) -> x.told(0, 0, n), 0, 6, BAD);
        Edge.taken("the pin", Edge.LIVELY, x -> x.told(0, 0, 2), -1);
    }

    /** Promise 13: a spot from 0 to the limb's own length, axis 0 and 1. */
    private static void atNumbers() {
        Edge.puppets("at", Edge.LIVELY, (x, n) -> x.at(n, 0, 0, 0));
        Edge.bounds("at limb", Edge.LIVELY, (x, n) -> x.at(0, n, 0, 0), 0, 2, BAD);
        int[] lengths = {30, 25, 12};
        for (int k = 0; k < 3; k++) {
            int limb = k;
            Edge.bounds("at spot of limb " + k, Edge.LIVELY, (x, n) -> x.at(0, limb, n, 0), 0, lengths[k], BAD);
        }
        Edge.bounds("at axis", Edge.LIVELY, (x, n) -> x.at(0, 0, 0, n), 0, 1, BAD);
        PuppetStage x = Tell.made(TWO_LIMBS);
        due("the beginning", x.at(0, 0, 0, 1), 0);
        due("the end", x.at(0, 0, 10, 1), -10240);
        due("the next one's beginning", x.at(0, 1, 0, 1), -10240);
        due("its end", x.at(0, 1, 100, 1), -10240 - 102400);
    }

    /** Promise 14: bars 0 .. 5, axis 0 and 1. */
    private static void barAtNumbers() {
        Edge.puppets("barAt", Edge.LIVELY, (x, n) -> x.barAt(n, 0, 0));
        Edge.bounds("barAt bar", Edge.LIVELY, (x, n) -> x.barAt(0, n, 0), 0, 5, BAD);
        Edge.bounds("barAt axis", Edge.LIVELY, (x, n) -> x.barAt(0, 0, n), 0, 1, BAD);
    }
}
