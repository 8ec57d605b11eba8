/** Promises 15 to 21: every sentence that names a boundary case. */
public final class EdgesOfHoldsTest {
    private static final long BAD = Due.BAD, NO = Due.NO, FULL = Due.FULL, NONE = Due.NONE;

    public static void main(String[] args) {
        holdNumbers();
        holdKindsAndBars();
        holdSpots();
        holdsAreFull();
        dropNumbers();
        dropFirstMiddleLast();
        dropMakesRoom();
        pluckNumbers();
        pluckOfNoLength();
        pluckRefusalsInOrder();
        holdsNumbers();
        takenIsZero();
        farOfEveryBarAndLimb();
        isOfNumbers();
        liesNumbers();
        liesOfHoldsThatJustFit();
        whyOfNone();
        whyTheLeastOfSeveral();
        Due.finish();
    }

    private static void due(String call, long got, long want) {
        Due.due(call, got, want);
    }

    /** Limb 0 is 40 long, limb 1 is 7 long; n holds on limb 0, all strings of length 0 .. n - 1. */
    private static Tell.Scene strings(int n) {
        return x -> {
            x.limb(0, -1, 40, 1);
            x.limb(0, 0, 7, 1);
            for (int h = 0; h < n; h++) {
                x.hold(0, 0, 0, 0, h);
            }
        };
    }

    /** Promise 15: 'BAD: puppet, .. limb, .. length'; L is 0 .. 500 units. */
    private static void holdNumbers() {
        Edge.puppets("hold", Edge.LIVELY, (x, n) -> x.hold(n, 0, 0, 0, 0));
        Edge.kept("hold limb", Edge.LIVELY, (x, n) -> x.hold(0, 0, n, 0, 0), x -> x.holds(0, 5, 1), 0, 2);
        Edge.kept("hold length", Edge.LIVELY, (x, n) -> x.hold(1, 0, 0, 0, n), x -> x.holds(1, 5, 4), 0, 500);
        Edge.kept("length of a pluck", Edge.LIVELY, (x, n) -> x.hold(1, 20, 0, 0, n), x -> x.holds(1, 5, 4), 0, 500);
        Edge.kept("length for the ground", Edge.LIVELY, (x, n) -> x.hold(1, 40, 0, 0, n), x -> x.holds(1, 5, 4), 0, 500);
        Edge.taken("its number", Edge.LIVELY, x -> x.hold(0, 0, 0, 0, 0), 5);
        Edge.taken("the first number", strings(0), x -> x.hold(0, 0, 0, 0, 0), 0);
        Edge.refused("no limbs", x -> x.limb(1, -1, 5, 5), x -> x.hold(0, 0, 0, 0, 0), BAD);
        Edge.refused("no limbs, limb -1", x -> x.limb(1, -1, 5, 5), x -> x.hold(0, 0, -1, 0, 0), BAD);
    }

    /** 'kindAndBar is 10 times the KIND, and the BAR': kinds 0 .. 4, bars 0 .. 5, and no other number. */
    private static void holdKindsAndBars() {
        Edge.bounds("hold kindAndBar", Edge.LIVELY, (x, n) -> x.hold(0, n, 0, 0, 0), 0, 45, BAD);
        for (int n = -70; n <= 130; n++) {
            PuppetStage x = Tell.made(strings(0));
            int kind = n / 10;
            int bar = n % 10;
            boolean isOne = n >= 0 && kind <= 4 && bar <= 5;
            due("kindAndBar " + n, x.hold(0, n, 0, 0, 0), isOne ? 0 : BAD);
            due("holds", x.about(0, 1), isOne ? 1 : 0);
            due("kind of " + n, x.holds(0, 0, 0), isOne ? kind : BAD);
            due("bar of " + n, x.holds(0, 0, 3), isOne ? bar : BAD);
        }
        for (int last = 6; last < 10; last++) {
            int n = last;
            Edge.refused("bar " + n, Edge.LIVELY, x -> x.hold(0, 10 + n, 0, 0, 0), BAD);
        }
        Edge.refused("-1", Edge.LIVELY, x -> x.hold(0, -1, 0, 0, 0), BAD);
        Edge.refused("-10", Edge.LIVELY, x -> x.hold(0, -10, 0, 0, 0), BAD);
        Edge.refused("46", Edge.LIVELY, x -> x.hold(0, 46, 0, 0, 0), BAD);
        Edge.refused("50", Edge.LIVELY, x -> x.hold(0, 50, 0, 0, 0), BAD);
    }

    /** 'a spot on it (0 .. its LENGTH units from its beginning)', of each limb its own. */
    private static void holdSpots() {
        Edge.kept("spot of limb 0", Edge.LIVELY, (x, n) -> x.hold(0, 0, 0, n, 0), x -> x.holds(0, 5, 2), 0, 30);
        Edge.kept("spot of limb 2", Edge.LIVELY, (x, n) -> x.hold(0, 30, 2, n, 0), x -> x.holds(0, 5, 2), 0, 12);
        Edge.kept("spot for the ground", Edge.LIVELY, (x, n) -> x.hold(0, 40, 1, n, 0), x -> x.holds(0, 5, 2), 0, 25);
    }

    /** 'HOLDS of a PUPPET, 12 at most', 'FULL', which BAD stands ahead of. */
    private static void holdsAreFull() {
        Edge.taken("the twelfth", strings(11), x -> x.hold(0, 40, 0, 0, 0), 11);
        Edge.refused("the thirteenth", strings(12), x -> x.hold(0, 40, 0, 0, 0), FULL);
        Edge.taken("the other's first", x -> {
            strings(12).set(x);
            x.limb(1, -1, 5, 5);
        }, x -> x.hold(1, 0, 0, 0, 0), 0);
        Edge.refused("kind ahead of FULL", strings(12), x -> x.hold(0, 50, 0, 0, 0), BAD);
        Edge.refused("bar ahead of FULL", strings(12), x -> x.hold(0, 6, 0, 0, 0), BAD);
        Edge.refused("limb ahead of FULL", strings(12), x -> x.hold(0, 0, 2, 0, 0), BAD);
        Edge.refused("spot ahead of FULL", strings(12), x -> x.hold(0, 0, 1, 8, 0), BAD);
        Edge.refused("length ahead of FULL", strings(12), x -> x.hold(0, 0, 0, 0, 501), BAD);
    }

    /** Promise 16: 'BAD'. */
    private static void dropNumbers() {
        Edge.puppets("drop", Edge.LIVELY, (x, n) -> x.drop(n, 0));
        Edge.bounds("drop of 5", Edge.LIVELY, (x, n) -> x.drop(0, n), 0, 4, BAD);
        Edge.bounds("drop of 12", strings(12), (x, n) -> x.drop(0, n), 0, 11, BAD);
        Edge.bounds("drop of 1", strings(1), (x, n) -> x.drop(0, n), 0, 0, BAD);
        Edge.refused("drop of 0", strings(0), x -> x.drop(0, 0), BAD);
        for (int k = 0; k < 5; k++) {
            int kind = k;
            Edge.taken("its kind", Edge.LIVELY, x -> x.drop(0, kind), kind);
        }
    }

    /** 'A HOLD is no more; those behind come one number ahead', those ahead of it stay. */
    private static void dropFirstMiddleLast() {
        for (int gone = 0; gone < 12; gone++) {
            PuppetStage x = Tell.made(strings(12));
            due("drop " + gone, x.drop(0, gone), 0);
            due("holds", x.about(0, 1), 11);
            for (int h = 0; h < 11; h++) {
                due("hold " + h + " without " + gone, x.holds(0, h, 4), h < gone ? h : h + 1);
            }
            due("no twelfth", x.holds(0, 11, 0), BAD);
        }
    }

    private static void dropMakesRoom() {
        PuppetStage x = Tell.made(strings(12));
        due("full", x.hold(0, 20, 1, 7, 500), FULL);
        due("drop", x.drop(0, 5), 0);
        due("the last again", x.hold(0, 20, 1, 7, 500), 11);
        due("full again", x.hold(0, 20, 1, 7, 500), FULL);
        for (int h = 11; h >= 0; h--) {
            due("drop the first", x.drop(0, 0), h == 0 ? 2 : 0);
            due("holds", x.about(0, 1), h);
        }
        due("none", x.drop(0, 0), BAD);
    }

    /** Promise 17: 'BAD: puppet, hold; NO: it is no PLUCK; BAD: the number is not 0 .. L'. */
    private static void pluckNumbers() {
        Edge.puppets("pluck", Edge.LIVELY, (x, n) -> x.pluck(n, 2, 1));
        Edge.kept("taken", Edge.LIVELY, (x, n) -> x.pluck(0, 2, n), x -> x.holds(0, 2, 5), 0, 60);
        Edge.taken("what it was", Edge.LIVELY, x -> x.pluck(0, 2, 60), 5);
        Edge.taken("what it was, 0 at first", Edge.LIVELY, x -> {
            x.hold(0, 20, 0, 0, 500);
            return x.pluck(0, 5, 500);
        }, 0);
        for (int h : new int[] {Edge.LOW, -1, 5, Edge.HIGH}) {
            Edge.refused("pluck hold " + h, Edge.LIVELY, x -> x.pluck(0, h, 1), BAD);
        }
        for (int h : new int[] {0, 1, 3, 4}) {
            Edge.refused("no pluck: " + h, Edge.LIVELY, x -> x.pluck(0, h, 0), NO);
        }
    }

    private static void pluckOfNoLength() {
        Edge.bounds("taken of nothing", x -> {
            x.limb(0, -1, 5, 5);
            x.hold(0, 20, 0, 0, 0);
        }, (x, n) -> x.pluck(0, 0, n), 0, 0, BAD);
    }

    /** The first BAD ahead of NO, NO ahead of the second BAD. */
    private static void pluckRefusalsInOrder() {
        Edge.refused("hold ahead of the number", Edge.LIVELY, x -> x.pluck(0, 5, -1), BAD);
        Edge.refused("NO ahead of the number", Edge.LIVELY, x -> x.pluck(0, 0, -1), NO);
        Edge.refused("NO ahead of the number", Edge.LIVELY, x -> x.pluck(0, 0, 71), NO);
        Edge.refused("NO ahead of the number", Edge.LIVELY, x -> x.pluck(0, 4, 1), NO);
        Edge.refused("NO ahead of the number", Edge.LIVELY, x -> x.pluck(0, 3, Edge.HIGH), NO);
    }

    /** Promise 18: what 0 .. 8. */
    private static void holdsNumbers() {
        Edge.puppets("holds", Edge.LIVELY, (x, n) -> x.holds(n, 0, 0));
        Edge.bounds("holds hold", Edge.LIVELY, (x, n) -> x.holds(0, n, 0), 0, 4, BAD);
        Edge.bounds("holds hold of 12", strings(12), (x, n) -> x.holds(0, n, 0), 0, 11, BAD);
        Edge.bounds("holds what", Edge.LIVELY, (x, n) -> x.holds(0, 0, n), 0, 8, BAD);
        Edge.bounds("holds what of the ground", Edge.LIVELY, (x, n) -> x.holds(0, 4, n), 0, 8, BAD);
    }

    /** '5 TAKEN (0)': 0 for all that are no plucks, and for a pluck in a place where another one was. */
    private static void takenIsZero() {
        for (int h : new int[] {0, 1, 3, 4}) {
            Edge.taken("taken of " + h, Edge.LIVELY, x -> x.holds(0, h, 5), 0);
        }
        PuppetStage x = Tell.made(Edge.LIVELY);
        x.drop(0, 4);
        x.drop(0, 3);
        x.drop(0, 2);
        x.hold(0, 20, 0, 30, 60);
        due("taken of a new one", x.holds(0, 2, 5), 0);
        due("what it was", x.pluck(0, 2, 1), 0);
    }

    /** '6 FAR': from the first bar and limb to the last, of a string and of a run, by places that at() and barAt() tell. */
    private static void farOfEveryBarAndLimb() {
        for (int bar = 0; bar < 6; bar++) {
            PuppetStage x = new PuppetStage();
            for (int k = 0; k < 6; k++) {
                x.limb(0, k - 1, 10 + k, 1);
                x.bend(0, k, 3 * k + 1);
                x.bar(0, k, 15 * k - 40, 7 * k);
            }
            for (int limb = 0; limb < 6; limb++) {
                x.hold(0, bar, limb, limb, 9);
                x.hold(0, 10 + bar, limb, limb, 9);
                long spot = between(x, bar, limb, limb);
                due("string of bar " + bar + ", limb " + limb, x.holds(0, 2 * limb, 6), spot);
                due("run of bar " + bar + ", limb " + limb, x.holds(0, 2 * limb + 1, 6), spot + between(x, bar, 0, 10));
            }
        }
    }

    private static long between(PuppetStage x, int bar, int limb, int spot) {
        long dx = x.at(0, limb, spot, 0) - x.barAt(0, bar, 0);
        long dy = x.at(0, limb, spot, 1) - x.barAt(0, bar, 1);
        return PlainStage.root(dx * dx + dy * dy);
    }

    /** Promise 19: kinds 0 .. 4. */
    private static void isOfNumbers() {
        Edge.puppets("isOf", Edge.LIVELY, (x, n) -> x.isOf(n, 0, 0));
        Edge.bounds("isOf hold", Edge.LIVELY, (x, n) -> x.isOf(0, n, 0), 0, 4, BAD);
        Edge.bounds("isOf kind", Edge.LIVELY, (x, n) -> x.isOf(0, 0, n), 0, 4, BAD);
        Edge.bounds("isOf kind of the ground", Edge.LIVELY, (x, n) -> x.isOf(0, 4, n), 0, 4, BAD);
    }

    /** Promise 20: what 0 .. 3; of no holds and no limbs all is 0. */
    private static void liesNumbers() {
        Edge.puppets("lies", Edge.LIVELY, (x, n) -> x.lies(n, 0));
        Edge.bounds("lies what", Edge.LIVELY, (x, n) -> x.lies(0, n), 0, 3, BAD);
        for (int what = 0; what < 4; what++) {
            int asked = what;
            Edge.taken("lies of nothing", Edge.NEW, x -> x.lies(1, asked), 0);
        }
        Edge.taken("no weight, no depth", x -> x.limb(0, -1, 100, 0), x -> x.lies(0, 1), 0);
    }

    /** What is just long enough is not counted as too long; what is a grain short of taut is not counted as taut. */
    private static void liesOfHoldsThatJustFit() {
        PuppetStage x = new PuppetStage();
        x.limb(0, -1, 3, 0);
        x.bend(0, 0, 3);
        x.cross(0, 2, 2, 0);
        x.hold(0, 0, 0, 3, 5);
        x.hold(0, 0, 0, 3, 6);
        x.hold(0, 30, 0, 3, 4);
        x.hold(0, 30, 0, 3, 6);
        due("too long by a grain each", x.lies(0, 0), 2);
        due("two are", x.lies(0, 2), 2);
        due("taut", x.lies(0, 3), 2);
        x.bend(0, 0, 6);
        x.cross(0, 2, 7, 0);
        x.hold(0, 0, 0, 3, 10);
        due("9727 grains of 10 units", x.holds(0, 4, 6), 9727);
        due("taut ones", x.lies(0, 3), 4);
        x.cross(0, 2, 6, 0);
        x.drop(0, 4);
        x.hold(0, 0, 0, 3, 9);
        due("8704 grains of 9 units", x.holds(0, 4, 6), 8704);
        due("taut ones", x.lies(0, 3), 5);
        due("too long ones", x.lies(0, 2), 4);
    }

    /** Promise 21: 'NONE: it is LAWFUL', which it is with an excess of just 0. */
    private static void whyOfNone() {
        Edge.puppets("why", Edge.LIVELY, (x, n) -> x.why(n));
        PuppetStage x = new PuppetStage();
        x.limb(0, -1, 4, 0);
        x.cross(0, 3, 0, 0);
        due("no holds", x.why(0), NONE);
        x.hold(0, 0, 0, 4, 5);
        x.hold(0, 30, 0, 4, 4);
        x.hold(0, 30, 0, 4, 6);
        x.hold(0, 40, 0, 0, 0);
        due("all just fit", x.why(0), NONE);
        due("excess", x.lies(0, 0), 0);
        x.pin(0, 0, -1);
        Due.isTrue("not lawful any more", x.why(0) >= 0);
    }

    /** 'too long by most (the least of several)': at the front, behind, and alike. */
    private static void whyTheLeastOfSeveral() {
        PuppetStage x = new PuppetStage();
        x.limb(0, -1, 4, 0);
        x.cross(0, 3, 0, 0);
        x.hold(0, 0, 0, 4, 5);
        x.hold(0, 0, 0, 4, 3);
        x.hold(0, 0, 0, 4, 3);
        due("of two alike", x.why(0), 1);
        x.hold(0, 0, 0, 4, 2);
        due("the most, behind", x.why(0), 3);
        x.hold(0, 0, 0, 4, 4);
        due("the most, between", x.why(0), 3);
        x.drop(0, 0);
        due("one number ahead", x.why(0), 2);
        for (int h = 4; h < 12; h++) {
            x.hold(0, 0, 0, 4, h == 11 ? 0 : 1);
        }
        due("the last of all", x.why(0), 11);
    }
}
