/** 'Terms': every sentence there that names a bound, a count, a wrap-around or an order of refusals. */
public final class EdgesOfTermsTest {
    private static final long BAD = Due.BAD, NO = Due.NO, FULL = Due.FULL, NOTHING = Due.NOTHING, INDEX = Due.INDEX, NONE = Due.NONE;

    public static void main(String[] args) {
        refusedCallsAreNoChanges();
        refusedCallsKeepTheOldest();
        directionsComeRoundAbove();
        directionsComeRoundBelow();
        directionsComeToZero();
        tiltsComeRound();
        rootOfNothing();
        rootOfSquares();
        rootJustBelowAndAboveSquares();
        asFarAsAllGoes();
        stringJustLongEnough();
        rodGivesByOneUnit();
        groundAtNothing();
        runRoundsBothRoots();
        tautJust();
        betterIsStrict();
        Due.finish();
    }

    private static void due(String call, long got, long want) {
        Due.due(call, got, want);
    }

    /** 'A call that is refused .. changes nothing': one of each kind of refusal, and the kept changes with it. */
    private static void refusedCallsAreNoChanges() {
        Edge.refused("BAD", Edge.LIVELY, x -> x.pin(0, 301, 0), BAD);
        Edge.refused("NO", Edge.LIVELY, x -> x.bend(0, 0, 21), NO);
        Edge.refused("FULL", x -> {
            Edge.LIVELY.set(x);
            for (int k = 3; k < 6; k++) {
                x.limb(0, k - 1, 5, 5);
            }
        }, x -> x.limb(0, 5, 5, 5), FULL);
        Edge.refused("NOTHING", x -> {
            Edge.LIVELY.set(x);
            x.spans(0, -1);
        }, x -> x.span(0, 0, -5, 5), NOTHING);
        Edge.refused("INDEX", Edge.LIVELY, x -> x.span(0, 4, -5, 5), INDEX);
        Edge.refused("NO of undo", Edge.NEW, x -> x.undo(), NO);
    }

    /** A refused call pushes no kept change out: the fifth is still there after many refusals. */
    private static void refusedCallsKeepTheOldest() {
        PuppetStage x = new PuppetStage();
        for (int k = 1; k <= 5; k++) {
            x.pin(0, k, 0);
        }
        for (int k = 0; k < 20; k++) {
            due("refused", x.pin(0, 301 + k, 0), BAD);
            due("refused", x.lose(0), NO);
        }
        for (int k = 4; k >= 0; k--) {
            due("undo", x.undo(), k);
            due("pin", x.about(0, 9), k);
        }
        due("undo none", x.undo(), NO);
    }

    private static PuppetStage chain(int bend) {
        PuppetStage x = new PuppetStage();
        for (int k = 0; k < 6; k++) {
            x.limb(0, k - 1, 1, 1);
            x.bend(0, k, bend);
        }
        return x;
    }

    /** 'it comes again after 64': six bends of 31 go nearly three rounds. */
    private static void directionsComeRoundAbove() {
        PuppetStage x = chain(31);
        long[] directions = {31, 62, 29, 60, 27, 58};
        long[] sines = {100, -200, 297, -392, 483, -569};
        long[] cosines = {-1019, 1004, -980, 946, -903, 851};
        for (int k = 0; k < 6; k++) {
            due("direction " + k, x.told(0, k, 4), directions[k]);
            due("x " + k, x.at(0, k, 1, 0) - x.at(0, k, 0, 0), sines[k]);
            due("y " + k, x.at(0, k, 1, 1) - x.at(0, k, 0, 1), -cosines[k]);
        }
    }

    /** Six bends of -31, and of -32, go round the other way. */
    private static void directionsComeRoundBelow() {
        PuppetStage x = chain(-31);
        long[] directions = {33, 2, 35, 4, 37, 6};
        long[] sines = {-100, 200, -297, 392, -483, 569};
        for (int k = 0; k < 6; k++) {
            due("direction " + k, x.told(0, k, 4), directions[k]);
            due("x " + k, x.at(0, k, 1, 0) - x.at(0, k, 0, 0), sines[k]);
        }
        PuppetStage y = chain(-32);
        for (int k = 0; k < 6; k++) {
            due("half round " + k, y.told(0, k, 4), k % 2 == 0 ? 32 : 0);
            due("y of half round " + k, y.at(0, k, 1, 1), k % 2 == 0 ? 1024 : 0);
        }
    }

    /** A direction is 0 .. 63: 63 is the last, and then comes 0; 0 is the first, and ahead of it is 63. */
    private static void directionsComeToZero() {
        PuppetStage x = chain(0);
        x.bend(0, 0, 31);
        x.bend(0, 1, 31);
        x.bend(0, 2, 1);
        due("the last", x.told(0, 2, 4), 63);
        x.bend(0, 2, 2);
        due("round", x.told(0, 2, 4), 0);
        x.bend(0, 0, -32);
        x.bend(0, 1, -32);
        x.bend(0, 2, 0);
        due("the first", x.told(0, 2, 4), 0);
        x.bend(0, 2, -1);
        due("round", x.told(0, 2, 4), 63);
        due("to the left", x.at(0, 2, 1, 0) - x.at(0, 2, 0, 0), -100);
    }

    /** TILT + 16 and TILT + 32 come round, too: a bar at every tilt, and at both ends by hand. */
    private static void tiltsComeRound() {
        PuppetStage x = new PuppetStage();
        x.bar(0, 0, 1, 0);
        x.bar(0, 1, 0, 1);
        x.cross(0, 0, 0, 31);
        due("a at 47: x", x.barAt(0, 0, 0), -1019);
        due("a at 47: y", x.barAt(0, 0, 1), 100);
        due("b at 63: x", x.barAt(0, 1, 0), -100);
        due("b at 63: y", x.barAt(0, 1, 1), -1019);
        x.cross(0, 0, 0, -32);
        due("a at -16: x", x.barAt(0, 0, 0), -1024);
        due("a at -16: y", x.barAt(0, 0, 1), 0);
        due("b at 0: x", x.barAt(0, 1, 0), 0);
        due("b at 0: y", x.barAt(0, 1, 1), -1024);
        for (int tilt = -32; tilt < 32; tilt++) {
            x.cross(0, 0, 0, tilt);
            due("a x at " + tilt, x.barAt(0, 0, 0), PlainStage.sin(tilt + 16));
            due("a y at " + tilt, x.barAt(0, 0, 1), PlainStage.sin(tilt));
            due("b x at " + tilt, x.barAt(0, 1, 0), -PlainStage.sin(tilt));
            due("b y at " + tilt, x.barAt(0, 1, 1), PlainStage.sin(tilt + 16));
        }
    }

    /** A limb of that length and bend on the pin at 0, 0; a string without length from its end to the cross. */
    private static PuppetStage strung(int length, int bend, int x, int y) {
        PuppetStage stage = new PuppetStage();
        stage.limb(0, -1, length, 0);
        stage.bend(0, 0, bend);
        stage.cross(0, x, y, 0);
        stage.hold(0, 0, 0, length, 0);
        return stage;
    }

    /** 'ROOT .. is the least whole number, not below 0, whose square is not below it': of 0 that is 0. */
    private static void rootOfNothing() {
        due("far", strung(5, 0, 0, -5).holds(0, 0, 6), 0);
        due("too long", strung(5, 0, 0, -5).holds(0, 0, 7), 0);
    }

    private static void rootOfSquares() {
        due("3, 4, 5", strung(4, 0, 3, 0).holds(0, 0, 6), 5120);
        due("5, 12, 13", strung(12, 0, 5, 0).holds(0, 0, 6), 13312);
        due("straight", strung(4, 0, 0, 0).holds(0, 0, 6), 4096);
        due("20, 21, 29", strung(21, 16, 1, 21).holds(0, 0, 6), 29696);
    }

    private static void rootJustBelowAndAboveSquares() {
        due("40400 is 201 * 201 - 1", strung(1, 14, 1, 0).holds(0, 0, 6), 201);
        due("82901024 is 9105 * 9105 - 1", strung(3, 8, 10, 2).holds(0, 0, 6), 9105);
        due("931226 is 965 * 965 + 1", strung(1, 6, 1, 0).holds(0, 0, 6), 966);
        due("58660282 is 7659 * 7659 + 1", strung(9, 6, 5, 0).holds(0, 0, 6), 7660);
        due("94225850 is 9707 * 9707 + 1", strung(9, 6, 5, 2).holds(0, 0, 6), 9708);
    }

    /** Every place, length and number at its greatest: nothing runs over. */
    private static void asFarAsAllGoes() {
        PuppetStage x = new PuppetStage();
        x.pin(0, -300, -300);
        x.cross(0, 300, 300, 8);
        x.bar(0, 5, 100, -100);
        for (int k = 0; k < 6; k++) {
            x.limb(0, k - 1, 100, 50);
        }
        x.bend(0, 0, -8);
        due("the last end's x", x.at(0, 5, 100, 0), -307200 - 600 * 724);
        due("the last end's y", x.at(0, 5, 100, 1), -307200 - 600 * 724);
        due("the bar's x", x.barAt(0, 5, 0), 307200 + 200 * 724);
        due("the bar's y", x.barAt(0, 5, 1), 307200);
        long far = PlainStage.root(1193600L * 1193600L + 1048800L * 1048800L);
        for (int h = 0; h < 12; h++) {
            due("hold " + h, x.hold(0, 5, 5, 100, 0), h);
        }
        due("far", x.holds(0, 11, 6), far);
        due("excess", x.lies(0, 0), 12 * far);
        due("too long", x.lies(0, 2), 12);
        long halves = 0;
        for (int k = 0; k < 6; k++) {
            halves += 2 * -307200L - (2 * k + 1) * 72400L;
        }
        due("depth", x.lies(0, 1), 50 * halves);
        due("reach the far corner", x.reach(0, 5, 300, 300) > 0 ? 1 : 0, 1);
    }

    /** 'Where it is not too long, that is 0': just as long as it may be, a grain more, and a grain less. */
    private static void stringJustLongEnough() {
        for (int kind = 0; kind < 3; kind += 2) {
            due("3072 for 3", over(kind, 1, 8, 2, 2, 3), 0);
            due("5121 for 5", over(kind, 3, 3, 2, 2, 5), 1);
            due("4095 for 4", over(kind, 1, 5, 4, 1, 4), 0);
            due("3072 for 2", over(kind, 1, 8, 2, 2, 2), 1024);
        }
        due("a run of 2 * 3072 for 6", over(1, 1, 8, 2, 2, 6), 0);
        due("a run of 2 * 5121 for 10", over(1, 3, 3, 2, 2, 10), 2);
        due("a run of 2 * 4095 for 8", over(1, 1, 5, 4, 1, 8), 0);
        PuppetStage x = strung(3, 3, 2, 2);
        x.hold(0, 20, 0, 3, 8);
        x.pluck(0, 1, 2);
        due("a pluck with 2 taken of 8", x.holds(0, 1, 7), 0);
        x.pluck(0, 1, 3);
        due("a pluck with 3 taken of 8", x.holds(0, 1, 7), 1);
    }

    /** By how much a hold of that kind and length is too long, from the end of a limb to the cross. */
    private static long over(int kind, int length, int bend, int x, int y, int itsLength) {
        PuppetStage stage = strung(length, bend, x, y);
        stage.hold(0, 10 * kind, 0, length, itsLength);
        return stage.holds(0, 1, 7);
    }

    /** 'by the size of FAR less 1024 * L, less 1024 (it gives by one unit)', on both sides. */
    private static void rodGivesByOneUnit() {
        due("3072 for 2", over(3, 1, 8, 2, 2, 2), 0);
        due("3072 for 4", over(3, 1, 8, 2, 2, 4), 0);
        due("3072 for 3", over(3, 1, 8, 2, 2, 3), 0);
        due("5121 for 4", over(3, 3, 3, 2, 2, 4), 1);
        due("5121 for 6", over(3, 3, 3, 2, 2, 6), 0);
        due("4095 for 3", over(3, 1, 5, 4, 1, 3), 0);
        due("4095 for 5", over(3, 1, 5, 4, 1, 5), 1);
        due("0 for 1", over(3, 5, 0, 0, -5, 1), 0);
        due("0 for 2", over(3, 5, 0, 0, -5, 2), 1024);
        due("0 for 500", over(3, 5, 0, 0, -5, 500), 499 * 1024);
    }

    /** 'the spot may not be below y = 0: by how many grains it is (BAR and L are as told, but say nothing)'. */
    private static void groundAtNothing() {
        PuppetStage x = new PuppetStage();
        x.limb(0, -1, 9, 0);
        x.hold(0, 40, 0, 9, 0);
        x.hold(0, 45, 0, 9, 500);
        x.pin(0, 0, 5);
        x.bend(0, 0, 10);
        due("y", x.at(0, 0, 9, 1), -1);
        due("a grain below", x.holds(0, 0, 7), 1);
        due("a grain below, with bar and length", x.holds(0, 1, 7), 1);
        due("that is why", x.why(0), 0);
        x.pin(0, 0, -5);
        x.bend(0, 0, 22);
        due("y", x.at(0, 0, 9, 1), 1);
        due("a grain above", x.holds(0, 0, 7), 0);
        x.pin(0, 0, 9);
        x.bend(0, 0, 0);
        due("y", x.at(0, 0, 9, 1), 0);
        due("on it", x.holds(0, 0, 7), 0);
        due("lawful", x.why(0), NONE);
        due("no far", x.holds(0, 1, 6), 0);
        due("never taut", x.lies(0, 3), 0);
    }

    /** 'FAR is ROOT as before, and ROOT for that end, together': 7659.00007 grains twice are 7660 twice. */
    private static void runRoundsBothRoots() {
        PuppetStage x = strung(9, 6, 5, 0);
        x.hold(0, 10, 0, 9, 15);
        due("far", x.holds(0, 1, 6), 15320);
        due("too long", x.holds(0, 1, 7), 15320 - 15360 + 40);
        x.hold(0, 10, 0, 9, 14);
        due("too long", x.holds(0, 2, 7), 15320 - 14336);
    }

    /** 'TAUT is a hold (not GROUND) whose FAR is 1024 * L .. less 512, or more': 8704, 7681 and 9727 grains. */
    private static void tautJust() {
        for (int kind : new int[] {0, 2, 3}) {
            due("just taut", taut(kind, 6, 9, 0), 1);
            due("a unit longer", taut(kind, 6, 10, 0), 0);
            due("a grain more", taut(kind, 5, 8, 0), 1);
            due("a grain less", taut(kind, 7, 10, 0), 0);
        }
        due("a run of 17408 for 17", taut(1, 6, 17, 0), 1);
        due("a run of 17408 for 18", taut(1, 6, 18, 0), 0);
        due("a pluck, just taut", taut(2, 6, 19, 10), 1);
        due("a pluck, one less taken", taut(2, 6, 19, 9), 0);
        due("a pluck, a grain less", taut(2, 7, 20, 10), 0);
        due("a pluck, a grain more", taut(2, 5, 18, 10), 1);
        due("the ground", taut(4, 6, 0, 0), 0);
        PuppetStage x = strung(5, 0, 0, -5);
        due("no length, no distance", x.holds(0, 0, 8), 1);
        x.hold(0, 0, 0, 5, 1);
        due("one unit, no distance", x.holds(0, 1, 8), 0);
    }

    private static long taut(int kind, int y, int length, int taken) {
        PuppetStage x = strung(3, 6, 2, y);
        x.hold(0, 10 * kind, 0, 3, length);
        x.pluck(0, 1, taken);
        return x.holds(0, 1, 8);
    }

    /** 'if its EXCESS is less, or is as much and its DEPTH is less': what is as good is no change. */
    private static void betterIsStrict() {
        PuppetStage x = new PuppetStage();
        x.limb(0, -1, 10, 0);
        x.limb(0, 0, 10, 0);
        due("without weights and holds", x.isStill(0), 1);
        x.hold(0, 0, 0, 0, 10);
        due("with a hold that no bend changes", x.isStill(0), 1);
        x.lose(0);
        x.lose(0);
        x.limb(0, -1, 10, 1);
        x.bend(0, 0, 1);
        due("less depth", x.isStill(0), 0);
        x.hold(0, 0, 0, 0, 10);
        due("as much excess, less depth", x.isStill(0), 0);
        due("excess", x.lies(0, 0), 90 * 1024);
        due("rest", x.rest(0, 9), 1);
        due("excess", x.lies(0, 0), 90 * 1024);
    }
}
