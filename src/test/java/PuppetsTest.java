/** Promises 1 to 14: what puppets are made of. */
public final class PuppetsTest {
    private static final long BAD = Due.BAD, NO = Due.NO, FULL = Due.FULL, NOTHING = Due.NOTHING, INDEX = Due.INDEX, NONE = Due.NONE;
    private static final int LOW = Integer.MIN_VALUE, HIGH = Integer.MAX_VALUE;
    private static final int[] QUARTER = {0, 100, 200, 297, 392, 483, 569, 650, 724, 792, 851, 903, 946, 980, 1004, 1019, 1024};

    public static void main(String[] args) {
        newObject();
        limb();
        limbsTogether();
        lose();
        pin();
        spans();
        span();
        cross();
        bar();
        bend();
        hand();
        about();
        told();
        directions();
        at();
        barAt();
        Due.finish();
    }

    private static void due(String call, long got, long want) {
        Due.due(call, got, want);
    }

    private static void newObject() {
        PuppetStage x = new PuppetStage();
        long[] about = {0, 0, 0, 100, 0, 0, 0, 0, NONE, 0, 0};
        for (int puppet = 0; puppet < 2; puppet++) {
            for (int what = 0; what < about.length; what++) {
                due("new about(" + puppet + ", " + what + ")", x.about(puppet, what), about[what]);
            }
            for (int bar = 0; bar < 6; bar++) {
                due("new barAt x", x.barAt(puppet, bar, 0), 0);
                due("new barAt y", x.barAt(puppet, bar, 1), 102400);
            }
        }
        for (int what = 0; what < 4; what++) {
            due("new count(" + what + ")", x.count(what), 0);
        }
        due("new undo", x.undo(), NO);
    }

    private static void limb() {
        PuppetStage x = new PuppetStage();
        int[][] wrong = {
            {-1, -1, 10, 5}, {2, -1, 10, 5}, {LOW, -1, 10, 5}, {HIGH, -1, 10, 5},
            {0, -2, 10, 5}, {0, 0, 10, 5}, {0, LOW, 10, 5}, {0, HIGH, 10, 5},
            {0, -1, 0, 5}, {0, -1, 101, 5}, {0, -1, LOW, 5}, {0, -1, HIGH, 5},
            {0, -1, 10, -1}, {0, -1, 10, 51}, {0, -1, 10, LOW}, {0, -1, 10, HIGH}};
        for (int[] w : wrong) {
            due("limb wrong", x.limb(w[0], w[1], w[2], w[3]), BAD);
        }
        due("limb none came", x.about(0, 0), 0);
        due("limb no change", x.count(2), 0);
        due("limb 0", x.limb(0, -1, 1, 0), 0);
        due("limb parent 1", x.limb(0, 1, 1, 0), BAD);
        due("limb 1", x.limb(0, 0, 100, 50), 1);
        due("limb 2", x.limb(0, -1, 5, 7), 2);
        due("limb 3", x.limb(0, 2, 5, 7), 3);
        due("limb 4", x.limb(0, 1, 5, 7), 4);
        due("limb 5", x.limb(0, 4, 5, 7), 5);
        due("limb full", x.limb(0, 5, 5, 7), FULL);
        due("limb bad ahead of full", x.limb(0, 6, 5, 7), BAD);
        due("limb of the other puppet", x.limb(1, -1, 5, 7), 0);
    }

    private static void limbsTogether() {
        PuppetStage x = new PuppetStage();
        due("spans", x.spans(0, 3), 3);
        due("span 0", x.span(0, 0, 1, 20), 0);
        due("limb 0 not within its span", x.limb(0, -1, 10, 5), NO);
        due("limb bad ahead of no", x.limb(0, -1, 0, 5), BAD);
        due("span 0", x.span(0, 0, 0, 20), 0);
        due("limb 0 within", x.limb(0, -1, 10, 5), 0);
        due("span 1", x.span(0, 1, -20, -1), 0);
        due("limb 1 not within", x.limb(0, -1, 10, 5), NO);
        due("span 1", x.span(0, 1, -20, 0), 0);
        due("limb 1 within", x.limb(0, -1, 10, 5), 1);
        due("tick", x.tick(0, 0, 100, 0), 1);
        due("play", x.play(0, 1), 0);
        due("poses", x.about(0, 7), 1);
        due("limb refused keeps poses", x.limb(0, 5, 5, 5), BAD);
        due("poses", x.about(0, 7), 1);
        due("limb", x.limb(0, 0, 5, 5), 2);
        due("no poses", x.about(0, 7), 0);
        due("tick stays", x.about(0, 6), 1);
    }

    private static void lose() {
        PuppetStage x = new PuppetStage();
        due("lose -1", x.lose(-1), BAD);
        due("lose 2", x.lose(2), BAD);
        due("lose none", x.lose(0), NO);
        x.limb(0, -1, 11, 1);
        x.limb(0, 0, 22, 2);
        x.hold(0, 0, 1, 22, 10);
        x.hold(0, 11, 0, 5, 20);
        x.hold(0, 22, 1, 3, 30);
        x.hold(0, 33, 0, 6, 40);
        x.hold(0, 44, 1, 4, 50);
        x.pluck(0, 2, 9);
        x.tick(0, 0, 100, 0);
        x.play(0, 1);
        due("poses", x.about(0, 7), 1);
        due("lose limb 1", x.lose(0), 22);
        due("poses are none", x.about(0, 7), 0);
        due("ticks stay", x.about(0, 6), 1);
        due("limbs", x.about(0, 0), 1);
        due("holds", x.about(0, 1), 2);
        due("hold 0 kind", x.holds(0, 0, 0), 1);
        due("hold 0 spot", x.holds(0, 0, 2), 5);
        due("hold 0 bar", x.holds(0, 0, 3), 1);
        due("hold 0 length", x.holds(0, 0, 4), 20);
        due("hold 1 kind", x.holds(0, 1, 0), 3);
        due("hold 1 length", x.holds(0, 1, 4), 40);
        due("hold 1 taken", x.holds(0, 1, 5), 0);
        due("hold 2", x.holds(0, 2, 0), BAD);
        x.bend(0, 0, 9);
        due("lose limb 0", x.lose(0), 11);
        due("no holds", x.about(0, 1), 0);
        due("lose none", x.lose(0), NO);
        due("limb again", x.limb(0, -1, 7, 7), 0);
        due("its bend", x.told(0, 0, 3), 0);
    }

    private static void pin() {
        PuppetStage x = new PuppetStage();
        int[][] wrong = {{-1, 0, 0}, {2, 0, 0}, {0, 301, 0}, {0, -301, 0}, {0, 0, 301}, {0, 0, -301}, {0, LOW, 0}, {0, 0, HIGH}};
        for (int[] w : wrong) {
            due("pin wrong", x.pin(w[0], w[1], w[2]), BAD);
        }
        due("pin no change", x.count(2), 0);
        due("pin", x.pin(0, 300, -300), 0);
        due("pin x", x.about(0, 9), 300);
        due("pin y", x.about(0, 10), -300);
        due("other pin x", x.about(1, 9), 0);
        due("pin", x.pin(1, -300, 300), 0);
        due("pin x", x.about(1, 9), -300);
        due("pin y", x.about(1, 10), 300);
        x.limb(1, -1, 3, 1);
        due("limb begins at the pin x", x.at(1, 0, 0, 0), -307200);
        due("limb begins at the pin y", x.at(1, 0, 0, 1), 307200);
    }

    private static void spans() {
        PuppetStage x = new PuppetStage();
        due("spans puppet", x.spans(2, 0), BAD);
        due("spans -2", x.spans(0, -2), BAD);
        due("spans 7", x.spans(0, 7), BAD);
        due("spans low", x.spans(0, LOW), BAD);
        due("spans high", x.spans(0, HIGH), BAD);
        due("about spans", x.about(0, 8), NONE);
        due("spans 0", x.spans(0, 0), 0);
        due("about spans", x.about(0, 8), 0);
        due("spans 6", x.spans(0, 6), 6);
        due("about spans", x.about(0, 8), 6);
        x.limb(0, -1, 5, 5);
        due("span", x.span(0, 0, -3, 3), 0);
        due("least", x.told(0, 0, 5), -3);
        due("spans again", x.spans(0, 1), 1);
        due("least again", x.told(0, 0, 5), -32);
        due("greatest again", x.told(0, 0, 6), 31);
        due("span", x.span(0, 0, -3, 3), 0);
        due("spans missing", x.spans(0, -1), -1);
        due("about missing", x.about(0, 8), NONE);
        due("least missing", x.told(0, 0, 5), -32);
        due("other spans", x.about(1, 8), NONE);
    }

    private static void span() {
        PuppetStage x = new PuppetStage();
        due("span missing", x.span(0, 0, 0, 1), NOTHING);
        due("span bad ahead of nothing", x.span(0, 0, 1, 0), BAD);
        due("span nothing ahead of index", x.span(0, 9, 0, 1), NOTHING);
        x.spans(0, 0);
        due("span no pair", x.span(0, 0, 0, 1), INDEX);
        x.spans(0, 2);
        int[][] wrong = {{-1, 0, 0, 1}, {2, 0, 0, 1}, {0, 0, -33, 0}, {0, 0, 0, 32}, {0, 0, 2, 1}, {0, 0, LOW, 0}, {0, 0, 0, HIGH}, {0, 9, 2, 1}};
        for (int[] w : wrong) {
            due("span wrong", x.span(w[0], w[1], w[2], w[3]), BAD);
        }
        due("span index 2", x.span(0, 2, 0, 1), INDEX);
        due("span index -1", x.span(0, -1, 0, 1), INDEX);
        due("span index low", x.span(0, LOW, 0, 1), INDEX);
        due("span index high", x.span(0, HIGH, 0, 1), INDEX);
        due("span of no limb", x.span(0, 0, 7, 7), 0);
        due("span of no limb", x.span(0, 0, -32, 31), 0);
        x.limb(0, -1, 5, 5);
        due("bend", x.bend(0, 0, 4), 0);
        due("span below", x.span(0, 0, -32, 3), NO);
        due("span above", x.span(0, 0, 5, 31), NO);
        due("span just", x.span(0, 0, 4, 4), 0);
        due("least", x.told(0, 0, 5), 4);
        due("greatest", x.told(0, 0, 6), 4);
        due("span index ahead of no", x.span(0, 2, 5, 6), INDEX);
        due("span of the limb to come", x.span(0, 1, 5, 6), 0);
        due("limb to come", x.limb(0, 0, 5, 5), NO);
    }

    private static void cross() {
        PuppetStage x = new PuppetStage();
        int[][] wrong = {{-1, 0, 0, 0}, {2, 0, 0, 0}, {0, 301, 0, 0}, {0, -301, 0, 0}, {0, 0, 301, 0}, {0, 0, -301, 0},
            {0, 0, 0, 32}, {0, 0, 0, -33}, {0, LOW, 0, 0}, {0, 0, HIGH, 0}, {0, 0, 0, LOW}};
        for (int[] w : wrong) {
            due("cross wrong", x.cross(w[0], w[1], w[2], w[3]), BAD);
        }
        due("cross no change", x.count(2), 0);
        due("cross", x.cross(0, -300, 300, -32), 0);
        due("cross x", x.about(0, 2), -300);
        due("cross y", x.about(0, 3), 300);
        due("cross tilt", x.about(0, 4), -32);
        due("cross", x.cross(1, 300, -300, 31), 0);
        due("cross x", x.about(1, 2), 300);
        due("cross y", x.about(1, 3), -300);
        due("cross tilt", x.about(1, 4), 31);
    }

    private static void bar() {
        PuppetStage x = new PuppetStage();
        int[][] wrong = {{-1, 0, 0, 0}, {2, 0, 0, 0}, {0, -1, 0, 0}, {0, 6, 0, 0}, {0, 0, 101, 0}, {0, 0, -101, 0},
            {0, 0, 0, 101}, {0, 0, 0, -101}, {0, LOW, 0, 0}, {0, 0, HIGH, 0}, {0, 0, 0, LOW}};
        for (int[] w : wrong) {
            due("bar wrong", x.bar(w[0], w[1], w[2], w[3]), BAD);
        }
        due("bar no change", x.count(2), 0);
        due("bar 5", x.bar(0, 5, 100, -100), 0);
        due("bar 5 x", x.barAt(0, 5, 0), 102400);
        due("bar 5 y", x.barAt(0, 5, 1), 0);
        due("bar 4 x", x.barAt(0, 4, 0), 0);
        due("other bar 5 x", x.barAt(1, 5, 0), 0);
        due("bar 0", x.bar(0, 0, -100, 100), 0);
        due("bar 0 x", x.barAt(0, 0, 0), -102400);
        due("bar 0 y", x.barAt(0, 0, 1), 204800);
    }

    private static void bend() {
        PuppetStage x = new PuppetStage();
        due("bend of no limb", x.bend(0, 0, 0), BAD);
        x.limb(0, -1, 5, 5);
        x.limb(0, 0, 5, 5);
        due("bend puppet", x.bend(2, 0, 0), BAD);
        due("bend limb -1", x.bend(0, -1, 0), BAD);
        due("bend limb 2", x.bend(0, 2, 0), BAD);
        due("bend bad ahead of no", x.bend(0, 2, 99), BAD);
        due("bend 32", x.bend(0, 0, 32), NO);
        due("bend -33", x.bend(0, 0, -33), NO);
        due("bend high", x.bend(0, 0, HIGH), NO);
        due("bend 31", x.bend(0, 0, 31), 0);
        due("bend -32", x.bend(0, 0, -32), 31);
        due("bend 5", x.bend(0, 0, 5), -32);
        x.spans(0, 1);
        x.span(0, 0, -4, 6);
        due("bend 7", x.bend(0, 0, 7), NO);
        due("bend -5", x.bend(0, 0, -5), NO);
        due("bend 6", x.bend(0, 0, 6), 5);
        due("bend -4", x.bend(0, 0, -4), 6);
        due("bend beyond the pairs", x.bend(0, 1, -32), 0);
        due("told", x.told(0, 1, 3), -32);
    }

    private static void hand() {
        PuppetStage x = new PuppetStage();
        due("hand puppet", x.hand(-1, 0), BAD);
        due("hand 2", x.hand(0, 2), BAD);
        due("hand -1", x.hand(0, -1), BAD);
        due("hand low", x.hand(0, LOW), BAD);
        due("hand 1", x.hand(0, 1), 0);
        due("hand 1 again", x.hand(0, 1), 1);
        due("about hand", x.about(0, 5), 1);
        due("other hand", x.about(1, 5), 0);
        due("hand 0", x.hand(0, 0), 1);
        due("changes", x.count(2), 3);
    }

    private static void about() {
        PuppetStage x = new PuppetStage();
        due("about -1", x.about(0, -1), BAD);
        due("about 11", x.about(0, 11), BAD);
        due("about low", x.about(0, LOW), BAD);
        due("about puppet", x.about(2, 0), BAD);
        due("about puppet", x.about(-1, 0), BAD);
        x.limb(1, -1, 9, 1);
        x.limb(1, -1, 9, 1);
        x.hold(1, 0, 0, 0, 0);
        x.cross(1, 12, 13, 14);
        x.hand(1, 1);
        x.tick(1, 1, 2, 3);
        x.tick(1, 4, 5, 6);
        x.tick(1, 12, 13, 14);
        x.play(1, 1);
        x.spans(1, 4);
        x.pin(1, 21, 22);
        long[] want = {2, 1, 12, 13, 14, 1, 3, 3, 4, 21, 22};
        for (int what = 0; what < want.length; what++) {
            due("about(1, " + what + ")", x.about(1, what), want[what]);
        }
    }

    private static void told() {
        PuppetStage x = new PuppetStage();
        due("told of no limb", x.told(0, 0, 0), BAD);
        x.limb(0, -1, 33, 44);
        x.limb(0, 0, 34, 45);
        x.limb(0, -1, 35, 46);
        due("told -1", x.told(0, 0, -1), BAD);
        due("told 7", x.told(0, 0, 7), BAD);
        due("told limb 3", x.told(0, 3, 0), BAD);
        due("told limb -1", x.told(0, -1, 0), BAD);
        due("told puppet", x.told(2, 0, 0), BAD);
        x.bend(0, 0, 31);
        x.bend(0, 1, 31);
        x.bend(0, 2, -7);
        x.spans(0, 2);
        x.span(0, 1, 30, 31);
        long[][] want = {{33, 44, -1, 31, 31, -32, 31}, {34, 45, 0, 31, 62, 30, 31}, {35, 46, -1, -7, 57, -32, 31}};
        for (int limb = 0; limb < 3; limb++) {
            for (int what = 0; what < 7; what++) {
                due("told(0, " + limb + ", " + what + ")", x.told(0, limb, what), want[limb][what]);
            }
        }
        x.limb(0, 1, 1, 1);
        x.bend(0, 3, 5);
        due("direction comes round", x.told(0, 3, 4), 3);
    }

    /** SIN and COS of every direction, by a limb of one unit. */
    private static void directions() {
        PuppetStage x = new PuppetStage();
        x.limb(0, -1, 1, 1);
        for (int d = -32; d < 32; d++) {
            x.bend(0, 0, d);
            due("SIN(" + d + ")", x.at(0, 0, 1, 0), sine(d));
            due("COS(" + d + ")", -x.at(0, 0, 1, 1), sine(d + 16));
            due("direction " + d, x.told(0, 0, 4), d < 0 ? d + 64 : d);
        }
    }

    private static long sine(int k) {
        if (k < 0) {
            return -sine(-k);
        }
        if (k > 32) {
            return sine(k - 64);
        }
        return k > 16 ? QUARTER[32 - k] : QUARTER[k];
    }

    private static void at() {
        PuppetStage x = new PuppetStage();
        due("at no limb", x.at(0, 0, 0, 0), BAD);
        x.pin(0, 3, 7);
        x.limb(0, -1, 10, 1);
        x.limb(0, 0, 20, 1);
        x.bend(0, 0, 8);
        x.bend(0, 1, 16);
        due("at puppet", x.at(2, 0, 0, 0), BAD);
        due("at limb", x.at(0, 2, 0, 0), BAD);
        due("at limb -1", x.at(0, -1, 0, 0), BAD);
        due("at spot 11", x.at(0, 0, 11, 0), BAD);
        due("at spot -1", x.at(0, 0, -1, 0), BAD);
        due("at spot high", x.at(0, 0, HIGH, 0), BAD);
        due("at axis 2", x.at(0, 0, 0, 2), BAD);
        due("at axis -1", x.at(0, 0, 0, -1), BAD);
        due("at 0 x", x.at(0, 0, 0, 0), 3072);
        due("at 0 y", x.at(0, 0, 0, 1), 7168);
        due("at 10 x", x.at(0, 0, 10, 0), 3072 + 7240);
        due("at 10 y", x.at(0, 0, 10, 1), 7168 - 7240);
        due("at 1 of limb 1 x", x.at(0, 1, 1, 0), 3072 + 7240 + 724);
        due("at 1 of limb 1 y", x.at(0, 1, 1, 1), 7168 - 7240 + 724);
        due("at 20 of limb 1 x", x.at(0, 1, 20, 0), 3072 + 7240 + 14480);
        due("at 20 of limb 1 y", x.at(0, 1, 20, 1), 7168 - 7240 + 14480);
    }

    private static void barAt() {
        PuppetStage x = new PuppetStage();
        x.bar(0, 3, 10, 20);
        due("barAt puppet", x.barAt(-1, 0, 0), BAD);
        due("barAt bar 6", x.barAt(0, 6, 0), BAD);
        due("barAt bar -1", x.barAt(0, -1, 0), BAD);
        due("barAt bar low", x.barAt(0, LOW, 0), BAD);
        due("barAt axis 2", x.barAt(0, 0, 2), BAD);
        due("barAt axis -1", x.barAt(0, 0, -1), BAD);
        due("level x", x.barAt(0, 3, 0), 10240);
        due("level y", x.barAt(0, 3, 1), 102400 + 20480);
        x.cross(0, 1, 2, 16);
        due("a quarter x", x.barAt(0, 3, 0), 1024 - 20480);
        due("a quarter y", x.barAt(0, 3, 1), 2048 + 10240);
        x.cross(0, 1, 2, -32);
        due("a half x", x.barAt(0, 3, 0), 1024 - 10240);
        due("a half y", x.barAt(0, 3, 1), 2048 - 20480);
        x.cross(0, 0, 0, 8);
        due("an eighth x", x.barAt(0, 3, 0), 7240 - 14480);
        due("an eighth y", x.barAt(0, 3, 1), 7240 + 14480);
    }
}
