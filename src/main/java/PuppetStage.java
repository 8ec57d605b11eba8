/**
 * A stage of two string puppets on paper: what each call promises stands in the document.
 * Every row is made in a constructor and used again, so that no call makes an object.
 */
public final class PuppetStage {
    public static final long BAD = -9000000000000000001L, NO = -9000000000000000002L, FULL = -9000000000000000003L, NOTHING = -9000000000000000011L, INDEX = -9000000000000000013L, NONE = -9000000000000000005L;

    private static final int MOST_LIMBS = 6, MOST_BARS = 6, MOST_PAIRS = 6, MOST_HOLDS = 12, MOST_TICKS = 12, MOST_KEPT = 5;
    private static final int PIN = -1, MISSING = -1;
    private static final int RIGHT = 16, UP = 32, LAST_DIRECTION = 63;
    private static final int LEAST_STEP = -32, GREATEST_STEP = 31;
    private static final int FARTHEST = 300, BAR_FARTHEST = 100;
    private static final int MOST_LENGTH = 100, MOST_WEIGHT = 50, MOST_STRING = 500;
    private static final int MOST_RESTS = 300, MOST_PLAY_RESTS = 100;
    private static final int REACH_TILTS = 4, REACH_RESTS = 60;
    private static final int STRING = 0, RUN = 1, PLUCK = 2, ROD = 3, GROUND = 4;
    private static final int GRAINS = 1024, TAUT_WITHIN = 512, ROD_GIVES = 1024;
    private static final long BEYOND_ALL = 1000000000000000000L;

    /** SIN of every direction, so that no fold of a quarter round is needed where puppets rest. */
    private static final int[] SINES = {
        0, 100, 200, 297, 392, 483, 569, 650, 724, 792, 851, 903, 946, 980, 1004, 1019,
        1024, 1019, 1004, 980, 946, 903, 851, 792, 724, 650, 569, 483, 392, 297, 200, 100,
        0, -100, -200, -297, -392, -483, -569, -650, -724, -792, -851, -903, -946, -980, -1004, -1019,
        -1024, -1019, -1004, -980, -946, -903, -851, -792, -724, -650, -569, -483, -392, -297, -200, -100
    };

    private final Puppet first = new Puppet();
    private final Puppet second = new Puppet();
    private final History history = new History();
    private final Figure figure = new Figure();
    private final Figure otherFigure = new Figure();
    private final Settler settler = new Settler();
    private final Line line = new Line();
    private final Line otherLine = new Line();
    private final int[] bendsBefore = new int[MOST_LIMBS];
    private final int[] bendsBest = new int[MOST_LIMBS];
    private long restChanges = 0;

    public PuppetStage() {
    }

    // ---- puppets

    public long limb(int puppet, int parent, int length, int weight) {
        Puppet p = puppetOf(puppet);
        if (p == null || parent < PIN || parent >= p.limbs.count
                || !isWithin(length, 1, MOST_LENGTH) || !isWithin(weight, 0, MOST_WEIGHT)) {
            return BAD;
        }
        if (!p.spans.allow(p.limbs.count, 0)) {
            return NO;
        }
        if (p.limbs.count >= MOST_LIMBS) {
            return FULL;
        }
        history.keep(first, second);
        p.gesture.poses = 0;
        return p.limbs.add(parent, length, weight);
    }

    public long lose(int puppet) {
        Puppet p = puppetOf(puppet);
        if (p == null) {
            return BAD;
        }
        if (p.limbs.count <= 0) {
            return NO;
        }
        history.keep(first, second);
        p.gesture.poses = 0;
        p.holds.removeAllOn(p.limbs.count - 1);
        return p.limbs.removeLast();
    }

    public long pin(int puppet, int x, int y) {
        Puppet p = puppetOf(puppet);
        if (p == null || !isPlace(x, y)) {
            return BAD;
        }
        history.keep(first, second);
        p.limbs.pinX = x;
        p.limbs.pinY = y;
        return 0;
    }

    public long spans(int puppet, int n) {
        Puppet p = puppetOf(puppet);
        if (p == null || !isWithin(n, MISSING, MOST_PAIRS)) {
            return BAD;
        }
        history.keep(first, second);
        p.spans.begin(n);
        return n;
    }

    public long span(int puppet, int k, int least, int greatest) {
        Puppet p = puppetOf(puppet);
        if (p == null || !isStep(least) || !isStep(greatest) || least > greatest) {
            return BAD;
        }
        if (p.spans.pairs == MISSING) {
            return NOTHING;
        }
        if (!p.spans.has(k)) {
            return INDEX;
        }
        if (p.limbs.has(k) && !isWithin(p.limbs.bend[k], least, greatest)) {
            return NO;
        }
        history.keep(first, second);
        p.spans.least[k] = least;
        p.spans.greatest[k] = greatest;
        return 0;
    }

    public long cross(int puppet, int x, int y, int tilt) {
        Puppet p = puppetOf(puppet);
        if (p == null || !isPlace(x, y) || !isStep(tilt)) {
            return BAD;
        }
        history.keep(first, second);
        p.cross.put(x, y, tilt);
        return 0;
    }

    public long bar(int puppet, int k, int a, int b) {
        Puppet p = puppetOf(puppet);
        if (p == null || !isBar(k) || !isWithin(a, -BAR_FARTHEST, BAR_FARTHEST) || !isWithin(b, -BAR_FARTHEST, BAR_FARTHEST)) {
            return BAD;
        }
        history.keep(first, second);
        p.cross.barA[k] = a;
        p.cross.barB[k] = b;
        return 0;
    }

    public long bend(int puppet, int limb, int bend) {
        Puppet p = puppetOf(puppet);
        if (p == null || !p.limbs.has(limb)) {
            return BAD;
        }
        if (!p.spans.allow(limb, bend)) {
            return NO;
        }
        history.keep(first, second);
        int before = p.limbs.bend[limb];
        p.limbs.bend[limb] = bend;
        return before;
    }

    public long hand(int puppet, int hand) {
        Puppet p = puppetOf(puppet);
        if (p == null || !isWithin(hand, 0, 1)) {
            return BAD;
        }
        history.keep(first, second);
        int before = p.hand;
        p.hand = hand;
        return before;
    }

    public long about(int puppet, int what) {
        Puppet p = puppetOf(puppet);
        if (p == null) {
            return BAD;
        }
        switch (what) {
            case 0: return p.limbs.count;
            case 1: return p.holds.count;
            case 2: return p.cross.x;
            case 3: return p.cross.y;
            case 4: return p.cross.tilt;
            case 5: return p.hand;
            case 6: return p.gesture.ticks;
            case 7: return p.gesture.poses;
            case 8: return p.spans.pairs == MISSING ? NONE : p.spans.pairs;
            case 9: return p.limbs.pinX;
            case 10: return p.limbs.pinY;
            default: return BAD;
        }
    }

    public long told(int puppet, int limb, int what) {
        Puppet p = puppetOf(puppet);
        if (p == null || !p.limbs.has(limb)) {
            return BAD;
        }
        switch (what) {
            case 0: return p.limbs.length[limb];
            case 1: return p.limbs.weight[limb];
            case 2: return p.limbs.parent[limb];
            case 3: return p.limbs.bend[limb];
            case 4:
                figure.layLimbs(p.limbs);
                return figure.direction[limb];
            case 5: return p.spans.leastOf(limb);
            case 6: return p.spans.greatestOf(limb);
            default: return BAD;
        }
    }

    public long at(int puppet, int limb, int spot, int axis) {
        Puppet p = puppetOf(puppet);
        if (p == null || !p.limbs.has(limb) || !isWithin(spot, 0, p.limbs.length[limb]) || !isWithin(axis, 0, 1)) {
            return BAD;
        }
        figure.layLimbs(p.limbs);
        return axis == 0 ? figure.spotX(limb, spot) : figure.spotY(limb, spot);
    }

    public long barAt(int puppet, int bar, int axis) {
        Puppet p = puppetOf(puppet);
        if (p == null || !isBar(bar) || !isWithin(axis, 0, 1)) {
            return BAD;
        }
        figure.layBars(p.cross);
        return axis == 0 ? figure.barX[bar] : figure.barY[bar];
    }

    // ---- holds

    public long hold(int puppet, int kindAndBar, int limb, int spot, int length) {
        Puppet p = puppetOf(puppet);
        int kind = kindAndBar / 10;
        int bar = kindAndBar % 10;
        if (p == null || kindAndBar < 0 || !isKind(kind) || !isBar(bar) || !p.limbs.has(limb)
                || !isWithin(spot, 0, p.limbs.length[limb]) || !isWithin(length, 0, MOST_STRING)) {
            return BAD;
        }
        if (p.holds.count >= MOST_HOLDS) {
            return FULL;
        }
        history.keep(first, second);
        return p.holds.add(kind, bar, limb, spot, length);
    }

    public long drop(int puppet, int hold) {
        Puppet p = puppetOf(puppet);
        if (p == null || !p.holds.has(hold)) {
            return BAD;
        }
        history.keep(first, second);
        int kind = p.holds.kind[hold];
        p.holds.remove(hold);
        return kind;
    }

    public long pluck(int puppet, int hold, int taken) {
        Puppet p = puppetOf(puppet);
        if (p == null || !p.holds.has(hold)) {
            return BAD;
        }
        if (p.holds.kind[hold] != PLUCK) {
            return NO;
        }
        if (!isWithin(taken, 0, p.holds.length[hold])) {
            return BAD;
        }
        history.keep(first, second);
        int before = p.holds.taken[hold];
        p.holds.taken[hold] = taken;
        return before;
    }

    public long holds(int puppet, int hold, int what) {
        Puppet p = puppetOf(puppet);
        if (p == null || !p.holds.has(hold)) {
            return BAD;
        }
        figure.lay(p);
        long far = figure.far(p.holds, hold);
        switch (what) {
            case 0: return p.holds.kind[hold];
            case 1: return p.holds.limb[hold];
            case 2: return p.holds.spot[hold];
            case 3: return p.holds.bar[hold];
            case 4: return p.holds.length[hold];
            case 5: return p.holds.taken[hold];
            case 6: return far;
            case 7: return figure.tooLong(p.holds, hold, far);
            case 8: return p.holds.isTaut(hold, far) ? 1 : 0;
            default: return BAD;
        }
    }

    public long isOf(int puppet, int hold, int kind) {
        Puppet p = puppetOf(puppet);
        if (p == null || !p.holds.has(hold) || !isKind(kind)) {
            return BAD;
        }
        int own = p.holds.kind[hold];
        boolean isStringToo = kind == STRING && own != GROUND;
        return own == kind || isStringToo ? 1 : 0;
    }

    public long lies(int puppet, int what) {
        Puppet p = puppetOf(puppet);
        if (p == null) {
            return BAD;
        }
        figure.lay(p);
        switch (what) {
            case 0: return excessOf(p.holds);
            case 1: return figure.depthOf(p.limbs);
            case 2: return countTooLong(p.holds);
            case 3: return countTaut(p.holds);
            default: return BAD;
        }
    }

    public long why(int puppet) {
        Puppet p = puppetOf(puppet);
        if (p == null) {
            return BAD;
        }
        figure.lay(p);
        long most = 0;
        long worst = NONE;
        for (int h = 0; h < p.holds.count; h++) {
            long over = figure.tooLong(p.holds, h, figure.far(p.holds, h));
            if (over > most) {
                most = over;
                worst = h;
            }
        }
        return worst;
    }

    // ---- rest

    public long rest(int puppet, int n) {
        Puppet p = puppetOf(puppet);
        if (p == null || !isWithin(n, 1, MOST_RESTS)) {
            return BAD;
        }
        history.keep(first, second);
        int done = settler.settle(p, n);
        restChanges += done;
        return done;
    }

    public long isStill(int puppet) {
        Puppet p = puppetOf(puppet);
        if (p == null) {
            return BAD;
        }
        copyRow(p.limbs.bend, bendsBefore);
        int done = settler.settle(p, 1);
        copyRow(bendsBefore, p.limbs.bend);
        return done == 0 ? 1 : 0;
    }

    public long lowest(int puppet) {
        Puppet p = puppetOf(puppet);
        if (p == null) {
            return BAD;
        }
        if (!isWithin(p.limbs.count, 1, 2)) {
            return NO;
        }
        history.keep(first, second);
        copyRow(p.limbs.bend, bendsBefore);
        settler.findLowest(p, bendsBest);
        copyRow(bendsBest, p.limbs.bend);
        int differ = 0;
        for (int k = 0; k < p.limbs.count; k++) {
            if (bendsBest[k] != bendsBefore[k]) {
                differ++;
            }
        }
        return differ;
    }

    // ---- gestures

    public long tick(int puppet, int x, int y, int tilt) {
        Puppet p = puppetOf(puppet);
        if (p == null || !isPlace(x, y) || !isStep(tilt)) {
            return BAD;
        }
        if (p.gesture.ticks >= MOST_TICKS) {
            return FULL;
        }
        p.gesture.poses = 0;
        return p.gesture.add(x, y, tilt);
    }

    public long calm(int puppet) {
        Puppet p = puppetOf(puppet);
        if (p == null) {
            return BAD;
        }
        int before = p.gesture.ticks;
        p.gesture.ticks = 0;
        p.gesture.poses = 0;
        return before;
    }

    public long play(int puppet, int n) {
        Puppet p = puppetOf(puppet);
        if (p == null || !isWithin(n, 1, MOST_PLAY_RESTS)) {
            return BAD;
        }
        if (p.gesture.ticks <= 0 || p.limbs.count <= 0) {
            return NO;
        }
        history.keep(first, second);
        long done = 0;
        for (int t = 0; t < p.gesture.ticks; t++) {
            p.cross.put(p.gesture.x[t], p.gesture.y[t], p.gesture.tilt[t]);
            done += settler.settle(p, n);
            p.gesture.keepPose(t, p.limbs);
        }
        p.gesture.poses = p.gesture.ticks;
        return done;
    }

    public long pose(int puppet, int tick, int limb) {
        Puppet p = puppetOf(puppet);
        if (p == null || !p.limbs.has(limb)) {
            return BAD;
        }
        if (tick < 0 || tick >= p.gesture.poses) {
            return NONE;
        }
        return p.gesture.bendOf(tick, limb);
    }

    public long round(int puppet) {
        Puppet p = puppetOf(puppet);
        if (p == null) {
            return BAD;
        }
        if (p.gesture.poses <= 0) {
            return NO;
        }
        return p.gesture.comesRound(p.limbs.count) ? 1 : 0;
    }

    public long reach(int puppet, int limb, int x, int y) {
        Puppet p = puppetOf(puppet);
        if (p == null || !p.limbs.has(limb) || !isPlace(x, y)) {
            return BAD;
        }
        history.keep(first, second);
        copyRow(p.limbs.bend, bendsBefore);
        int from = Math.max(LEAST_STEP, p.cross.tilt - REACH_TILTS);
        int to = Math.min(GREATEST_STEP, p.cross.tilt + REACH_TILTS);
        int bestTilt = from;
        long best = BEYOND_ALL;
        for (int tilt = from; tilt <= to; tilt++) {
            copyRow(bendsBefore, p.limbs.bend);
            p.cross.tilt = tilt;
            settler.settle(p, REACH_RESTS);
            figure.layLimbs(p.limbs);
            long square = squareOf(figure.endX[limb] - GRAINS * x, figure.endY[limb] - GRAINS * y);
            if (square < best) {
                best = square;
                bestTilt = tilt;
                copyRow(p.limbs.bend, bendsBest);
            }
        }
        p.cross.tilt = bestTilt;
        copyRow(bendsBest, p.limbs.bend);
        return best;
    }

    // ---- what is in the way

    public long tangle(int puppet) {
        Puppet p = puppetOf(puppet);
        if (p == null) {
            return BAD;
        }
        figure.lay(p);
        for (int i = 0; i < p.holds.count; i++) {
            for (int j = i + 1; j < p.holds.count; j++) {
                if (areTangled(p.holds, i, j)) {
                    return MOST_HOLDS * i + j;
                }
            }
        }
        return NONE;
    }

    public long meet() {
        figure.layLimbs(first.limbs);
        otherFigure.layLimbs(second.limbs);
        for (int i = 0; i < first.limbs.count; i++) {
            figure.drawLimb(i, line);
            for (int j = 0; j < second.limbs.count; j++) {
                otherFigure.drawLimb(j, otherLine);
                if (line.touches(otherLine)) {
                    return MOST_LIMBS * i + j;
                }
            }
        }
        return NONE;
    }

    public long mirror(int puppet) {
        Puppet p = puppetOf(puppet);
        if (p == null) {
            return BAD;
        }
        if (!p.hasMirrorImage()) {
            return NO;
        }
        history.keep(first, second);
        p.turnOver();
        return 0;
    }

    public long undo() {
        if (history.kept <= 0) {
            return NO;
        }
        history.takeBack(first, second);
        return history.kept;
    }

    public long count(int what) {
        switch (what) {
            case 0: return first.limbs.count + second.limbs.count;
            case 1: return first.holds.count + second.holds.count;
            case 2: return history.kept;
            case 3: return restChanges;
            default: return BAD;
        }
    }

    // ---- what several calls need

    private Puppet puppetOf(int puppet) {
        if (puppet == 0) {
            return first;
        }
        return puppet == 1 ? second : null;
    }

    // The four below ask about the figure as it is laid now.

    private long excessOf(Holds holds) {
        long excess = 0;
        for (int h = 0; h < holds.count; h++) {
            excess += figure.tooLong(holds, h, figure.far(holds, h));
        }
        return excess;
    }

    private int countTooLong(Holds holds) {
        int n = 0;
        for (int h = 0; h < holds.count; h++) {
            if (figure.tooLong(holds, h, figure.far(holds, h)) > 0) {
                n++;
            }
        }
        return n;
    }

    private int countTaut(Holds holds) {
        int n = 0;
        for (int h = 0; h < holds.count; h++) {
            if (holds.isTaut(h, figure.far(holds, h))) {
                n++;
            }
        }
        return n;
    }

    private boolean areTangled(Holds holds, int i, int j) {
        if (holds.kind[i] == GROUND || holds.kind[j] == GROUND) {
            return false;
        }
        figure.drawString(holds, i, line);
        figure.drawString(holds, j, otherLine);
        return line.goesThrough(otherLine);
    }

    private static boolean isWithin(int number, int least, int greatest) {
        return number >= least && number <= greatest;
    }

    private static boolean isStep(int number) {
        return isWithin(number, LEAST_STEP, GREATEST_STEP);
    }

    private static boolean isPlace(int x, int y) {
        return isWithin(x, -FARTHEST, FARTHEST) && isWithin(y, -FARTHEST, FARTHEST);
    }

    private static boolean isKind(int kind) {
        return isWithin(kind, STRING, GROUND);
    }

    private static boolean isBar(int bar) {
        return isWithin(bar, 0, MOST_BARS - 1);
    }

    private static int sine(int direction) {
        return SINES[direction & LAST_DIRECTION];
    }

    private static int cosine(int direction) {
        return SINES[(direction + RIGHT) & LAST_DIRECTION];
    }

    private static long squareOf(long dx, long dy) {
        return dx * dx + dy * dy;
    }

    /** ROOT of the square of a distance. The first guess is never below it, so guesses only fall. */
    private static long distance(long dx, long dy) {
        long wide = Math.max(Math.abs(dx), Math.abs(dy));
        long narrow = Math.min(Math.abs(dx), Math.abs(dy));
        long square = squareOf(dx, dy);
        long guess = wide + (narrow + 1) / 2;
        for (int turn = 0; turn < 64 && guess > 0; turn++) {
            long next = (guess + square / guess) / 2;
            if (next >= guess) {
                break;
            }
            guess = next;
        }
        return guess * guess < square ? guess + 1 : guess;
    }

    private static void copyRow(int[] from, int[] to) {
        System.arraycopy(from, 0, to, 0, Math.min(from.length, to.length));
    }

    private static boolean isAmong(int number, int[] row, int n) {
        for (int k = 0; k < n && k < row.length; k++) {
            if (row[k] == number) {
                return true;
            }
        }
        return false;
    }

    private static void turnSigns(int[] row, int n) {
        for (int k = 0; k < n && k < row.length; k++) {
            row[k] = -row[k];
        }
    }

    /** The limbs of a puppet, and the pin that they hang on. */
    private static final class Limbs {
        final int[] length = new int[MOST_LIMBS];
        final int[] weight = new int[MOST_LIMBS];
        final int[] parent = new int[MOST_LIMBS];
        final int[] bend = new int[MOST_LIMBS];
        int count = 0;
        int pinX = 0;
        int pinY = 0;

        boolean has(int limb) {
            return limb >= 0 && limb < count;
        }

        int add(int itsParent, int itsLength, int itsWeight) {
            int limb = count;
            parent[limb] = itsParent;
            length[limb] = itsLength;
            weight[limb] = itsWeight;
            bend[limb] = 0;
            count++;
            return limb;
        }

        int removeLast() {
            count--;
            return length[count];
        }

        void become(Limbs other) {
            copyRow(other.length, length);
            copyRow(other.weight, weight);
            copyRow(other.parent, parent);
            copyRow(other.bend, bend);
            count = other.count;
            pinX = other.pinX;
            pinY = other.pinY;
        }

        void turnOver() {
            pinX = -pinX;
            turnSigns(bend, count);
        }
    }

    /** The least and greatest bends; limbs without a pair bend as far as steps go. */
    private static final class Spans {
        final int[] least = new int[MOST_PAIRS];
        final int[] greatest = new int[MOST_PAIRS];
        int pairs = MISSING;

        boolean has(int k) {
            return k >= 0 && k < pairs;
        }

        int leastOf(int limb) {
            return has(limb) ? least[limb] : LEAST_STEP;
        }

        int greatestOf(int limb) {
            return has(limb) ? greatest[limb] : GREATEST_STEP;
        }

        boolean allow(int limb, int bend) {
            return bend >= leastOf(limb) && bend <= greatestOf(limb);
        }

        void begin(int n) {
            for (int k = 0; k < MOST_PAIRS; k++) {
                least[k] = LEAST_STEP;
                greatest[k] = GREATEST_STEP;
            }
            pairs = n;
        }

        void become(Spans other) {
            copyRow(other.least, least);
            copyRow(other.greatest, greatest);
            pairs = other.pairs;
        }

        void turnOver() {
            for (int k = 0; k < pairs; k++) {
                int before = least[k];
                least[k] = -greatest[k];
                greatest[k] = -before;
            }
        }
    }

    /** The cross of a puppet with its bars. */
    private static final class Cross {
        final int[] barA = new int[MOST_BARS];
        final int[] barB = new int[MOST_BARS];
        int x = 0;
        int y = 100;
        int tilt = 0;

        void put(int toX, int toY, int toTilt) {
            x = toX;
            y = toY;
            tilt = toTilt;
        }

        void become(Cross other) {
            copyRow(other.barA, barA);
            copyRow(other.barB, barB);
            put(other.x, other.y, other.tilt);
        }

        void turnOver() {
            x = -x;
            tilt = -tilt;
            turnSigns(barA, MOST_BARS);
        }
    }

    /** The holds of a puppet, told in rows. */
    private static final class Holds {
        final int[] kind = new int[MOST_HOLDS];
        final int[] bar = new int[MOST_HOLDS];
        final int[] limb = new int[MOST_HOLDS];
        final int[] spot = new int[MOST_HOLDS];
        final int[] length = new int[MOST_HOLDS];
        final int[] taken = new int[MOST_HOLDS];
        int count = 0;

        boolean has(int hold) {
            return hold >= 0 && hold < count;
        }

        int add(int itsKind, int itsBar, int itsLimb, int itsSpot, int itsLength) {
            int hold = count;
            kind[hold] = itsKind;
            bar[hold] = itsBar;
            limb[hold] = itsLimb;
            spot[hold] = itsSpot;
            length[hold] = itsLength;
            taken[hold] = 0;
            count++;
            return hold;
        }

        void remove(int hold) {
            closeGap(kind, hold);
            closeGap(bar, hold);
            closeGap(limb, hold);
            closeGap(spot, hold);
            closeGap(length, hold);
            closeGap(taken, hold);
            count--;
        }

        private void closeGap(int[] row, int gap) {
            for (int h = gap; h + 1 < count; h++) {
                row[h] = row[h + 1];
            }
        }

        void removeAllOn(int itsLimb) {
            for (int h = count - 1; h >= 0; h--) {
                if (limb[h] == itsLimb) {
                    remove(h);
                }
            }
        }

        /** What a string may measure, in grains; only a pluck ever has something taken in. */
        int free(int hold) {
            return GRAINS * (length[hold] - taken[hold]);
        }

        boolean isTaut(int hold, long far) {
            return kind[hold] != GROUND && far >= free(hold) - TAUT_WITHIN;
        }

        void become(Holds other) {
            copyRow(other.kind, kind);
            copyRow(other.bar, bar);
            copyRow(other.limb, limb);
            copyRow(other.spot, spot);
            copyRow(other.length, length);
            copyRow(other.taken, taken);
            count = other.count;
        }
    }

    /** The ticks of a gesture, and the poses of its latest play: none, or one a tick. */
    private static final class Gesture {
        final int[] x = new int[MOST_TICKS];
        final int[] y = new int[MOST_TICKS];
        final int[] tilt = new int[MOST_TICKS];
        final int[] bends = new int[MOST_TICKS * MOST_LIMBS];
        int ticks = 0;
        int poses = 0;

        int add(int itsX, int itsY, int itsTilt) {
            x[ticks] = itsX;
            y[ticks] = itsY;
            tilt[ticks] = itsTilt;
            ticks++;
            return ticks;
        }

        /** Limbs that are not there stand as 0, so that nothing of an earlier play stays in the row. */
        void keepPose(int tick, Limbs limbs) {
            for (int k = 0; k < MOST_LIMBS; k++) {
                bends[MOST_LIMBS * tick + k] = k < limbs.count ? limbs.bend[k] : 0;
            }
        }

        int bendOf(int tick, int limb) {
            return bends[MOST_LIMBS * tick + limb];
        }

        boolean comesRound(int limbs) {
            int last = poses - 1;
            for (int k = 0; k < limbs; k++) {
                if (bendOf(0, k) != bendOf(last, k)) {
                    return false;
                }
            }
            return tilt[0] == tilt[last];
        }

        void become(Gesture other) {
            copyRow(other.x, x);
            copyRow(other.y, y);
            copyRow(other.tilt, tilt);
            copyRow(other.bends, bends);
            ticks = other.ticks;
            poses = other.poses;
        }

        void turnOver() {
            turnSigns(x, ticks);
            turnSigns(tilt, ticks);
            turnSigns(bends, MOST_LIMBS * poses);
        }
    }

    /** All that is told of one puppet, and all that undo() brings back. */
    private static final class Puppet {
        final Limbs limbs = new Limbs();
        final Spans spans = new Spans();
        final Cross cross = new Cross();
        final Holds holds = new Holds();
        final Gesture gesture = new Gesture();
        int hand = 0;

        void become(Puppet other) {
            limbs.become(other.limbs);
            spans.become(other.spans);
            cross.become(other.cross);
            holds.become(other.holds);
            gesture.become(other.gesture);
            hand = other.hand;
        }

        /** A step of -32 would become 32, which is none. */
        boolean hasMirrorImage() {
            return cross.tilt != LEAST_STEP
                    && !isAmong(LEAST_STEP, limbs.bend, limbs.count)
                    && !isAmong(LEAST_STEP, spans.least, spans.pairs)
                    && !isAmong(LEAST_STEP, gesture.tilt, gesture.ticks)
                    && !isAmong(LEAST_STEP, gesture.bends, MOST_LIMBS * gesture.poses);
        }

        void turnOver() {
            limbs.turnOver();
            spans.turnOver();
            cross.turnOver();
            gesture.turnOver();
            hand = 1 - hand;
        }
    }

    /** Where limbs and bars are, in grains, and the excess and depth that another way to lie must beat. */
    private static final class Figure {
        final int[] direction = new int[MOST_LIMBS];
        final int[] stepX = new int[MOST_LIMBS];
        final int[] stepY = new int[MOST_LIMBS];
        final int[] startX = new int[MOST_LIMBS];
        final int[] startY = new int[MOST_LIMBS];
        final int[] endX = new int[MOST_LIMBS];
        final int[] endY = new int[MOST_LIMBS];
        final int[] barX = new int[MOST_BARS];
        final int[] barY = new int[MOST_BARS];
        private long excess = BEYOND_ALL;
        private long depth = 0;

        void lay(Puppet p) {
            layBars(p.cross);
            layLimbs(p.limbs);
        }

        void layBars(Cross cross) {
            int across = cross.tilt + RIGHT;
            int along = cross.tilt + UP;
            for (int k = 0; k < MOST_BARS; k++) {
                barX[k] = GRAINS * cross.x + cross.barA[k] * sine(across) + cross.barB[k] * sine(along);
                barY[k] = GRAINS * cross.y - cross.barA[k] * cosine(across) - cross.barB[k] * cosine(along);
            }
        }

        void layLimbs(Limbs limbs) {
            for (int k = 0; k < limbs.count; k++) {
                int parent = limbs.parent[k];
                boolean onLimb = parent >= 0 && parent < k;
                direction[k] = ((onLimb ? direction[parent] : 0) + limbs.bend[k]) & LAST_DIRECTION;
                stepX[k] = sine(direction[k]);
                stepY[k] = -cosine(direction[k]);
                startX[k] = onLimb ? endX[parent] : GRAINS * limbs.pinX;
                startY[k] = onLimb ? endY[parent] : GRAINS * limbs.pinY;
                endX[k] = spotX(k, limbs.length[k]);
                endY[k] = spotY(k, limbs.length[k]);
            }
        }

        int spotX(int limb, int spot) {
            return startX[limb] + spot * stepX[limb];
        }

        int spotY(int limb, int spot) {
            return startY[limb] + spot * stepY[limb];
        }

        long far(Holds holds, int hold) {
            if (holds.kind[hold] == GROUND) {
                return 0;
            }
            int bar = holds.bar[hold];
            int limb = holds.limb[hold];
            int spot = holds.spot[hold];
            long far = distance(spotX(limb, spot) - barX[bar], spotY(limb, spot) - barY[bar]);
            if (holds.kind[hold] == RUN) {
                far += distance(endX[0] - barX[bar], endY[0] - barY[bar]);
            }
            return far;
        }

        /** By how much a hold that measures so far is too long, 0 if it is not. */
        long tooLong(Holds holds, int hold, long far) {
            long over = far - holds.free(hold);
            if (holds.kind[hold] == GROUND) {
                over = -spotY(holds.limb[hold], holds.spot[hold]);
            } else if (holds.kind[hold] == ROD) {
                over = Math.abs(over) - ROD_GIVES;
            }
            return Math.max(0, over);
        }

        long depthOf(Limbs limbs) {
            long sum = 0;
            for (int k = 0; k < limbs.count; k++) {
                sum += (long) limbs.weight[k] * (startY[k] + endY[k]);
            }
            return sum;
        }

        /** From here on the next way to lie counts as better, whatever it is. */
        void begin(Cross cross) {
            layBars(cross);
            excess = BEYOND_ALL;
        }

        /** Whether the puppet lies better now than the best since begin(); if so, this is the best. */
        boolean isBetter(Puppet p) {
            layLimbs(p.limbs);
            long newExcess = 0;
            for (int h = 0; h < p.holds.count; h++) {
                newExcess += tooLong(p.holds, h, far(p.holds, h));
                if (newExcess > excess) {
                    return false;
                }
            }
            long newDepth = depthOf(p.limbs);
            if (newExcess == excess && newDepth >= depth) {
                return false;
            }
            excess = newExcess;
            depth = newDepth;
            return true;
        }

        void drawLimb(int limb, Line line) {
            line.put(startX[limb], startY[limb], endX[limb], endY[limb]);
        }

        void drawString(Holds holds, int hold, Line line) {
            int bar = holds.bar[hold];
            int limb = holds.limb[hold];
            int spot = holds.spot[hold];
            line.put(barX[bar], barY[bar], spotX(limb, spot), spotY(limb, spot));
        }
    }

    /** Brings puppets to rest, and finds the lowest way to lie. */
    private static final class Settler {
        private final Figure figure = new Figure();

        /** How many changes were done, n at most. */
        int settle(Puppet p, int n) {
            figure.begin(p.cross);
            figure.isBetter(p);
            int done = 0;
            while (done < n && stepBetter(p)) {
                done++;
            }
            return done;
        }

        private boolean stepBetter(Puppet p) {
            int ahead = p.hand == 0 ? 1 : -1;
            int n = p.limbs.count;
            for (int i = 0; i < n; i++) {
                if (tryOne(p, i, ahead) || tryOne(p, i, -ahead)) {
                    return true;
                }
            }
            for (int i = 0; i < n; i++) {
                for (int j = i + 1; j < n; j++) {
                    if (tryTwo(p, i, ahead, j, ahead) || tryTwo(p, i, ahead, j, -ahead)
                            || tryTwo(p, i, -ahead, j, ahead) || tryTwo(p, i, -ahead, j, -ahead)) {
                        return true;
                    }
                }
            }
            return false;
        }

        private boolean tryOne(Puppet p, int i, int step) {
            int[] bend = p.limbs.bend;
            if (!p.spans.allow(i, bend[i] + step)) {
                return false;
            }
            bend[i] += step;
            if (figure.isBetter(p)) {
                return true;
            }
            bend[i] -= step;
            return false;
        }

        private boolean tryTwo(Puppet p, int i, int stepOfI, int j, int stepOfJ) {
            int[] bend = p.limbs.bend;
            if (!p.spans.allow(i, bend[i] + stepOfI) || !p.spans.allow(j, bend[j] + stepOfJ)) {
                return false;
            }
            bend[i] += stepOfI;
            bend[j] += stepOfJ;
            if (figure.isBetter(p)) {
                return true;
            }
            bend[i] -= stepOfI;
            bend[j] -= stepOfJ;
            return false;
        }

        /** Bends go upward, so of several lowest ways the first found is the least; p is left bent anyhow. */
        void findLowest(Puppet p, int[] best) {
            int[] bend = p.limbs.bend;
            copyRow(bend, best);
            figure.begin(p.cross);
            boolean hasTwo = p.limbs.count > 1;
            int from = hasTwo ? p.spans.leastOf(1) : 0;
            int to = hasTwo ? p.spans.greatestOf(1) : 0;
            for (int b = p.spans.leastOf(0); b <= p.spans.greatestOf(0); b++) {
                bend[0] = b;
                for (int c = from; c <= to; c++) {
                    bend[1] = c;
                    if (figure.isBetter(p)) {
                        copyRow(bend, best);
                    }
                }
            }
        }
    }

    /** A straight line between two places in grains. */
    private static final class Line {
        private long fromX = 0;
        private long fromY = 0;
        private long toX = 0;
        private long toY = 0;

        void put(long startX, long startY, long endX, long endY) {
            fromX = startX;
            fromY = startY;
            toX = endX;
            toY = endY;
        }

        /** -1 on one side, 1 on the other, 0 on the line or straight ahead of it. */
        private int sideOf(long x, long y) {
            return Long.signum((toX - fromX) * (y - fromY) - (toY - fromY) * (x - fromX));
        }

        /** Below 0 if the other line's ends are on both sides, 0 if one is on neither. */
        private int sidesOf(Line other) {
            return sideOf(other.fromX, other.fromY) * sideOf(other.toX, other.toY);
        }

        boolean goesThrough(Line other) {
            return sidesOf(other) < 0 && other.sidesOf(this) < 0;
        }

        /** The spreads tell lines apart that lie one behind the other on one straight line. */
        boolean touches(Line other) {
            return spreadsMeet(fromX, toX, other.fromX, other.toX)
                    && spreadsMeet(fromY, toY, other.fromY, other.toY)
                    && sidesOf(other) <= 0 && other.sidesOf(this) <= 0;
        }

        private static boolean spreadsMeet(long a, long b, long c, long d) {
            return Math.max(a, b) >= Math.min(c, d) && Math.max(c, d) >= Math.min(a, b);
        }
    }

    /** Both puppets as they were ahead of each of the latest changes. */
    private static final class History {
        private final Puppet[] firsts = new Puppet[MOST_KEPT];
        private final Puppet[] seconds = new Puppet[MOST_KEPT];
        private int next = 0;
        int kept = 0;

        History() {
            for (int k = 0; k < MOST_KEPT; k++) {
                firsts[k] = new Puppet();
                seconds[k] = new Puppet();
            }
        }

        void keep(Puppet first, Puppet second) {
            firsts[next].become(first);
            seconds[next].become(second);
            next = (next + 1) % MOST_KEPT;
            kept = Math.min(kept + 1, MOST_KEPT);
        }

        void takeBack(Puppet first, Puppet second) {
            next = (next + MOST_KEPT - 1) % MOST_KEPT;
            first.become(firsts[next]);
            second.become(seconds[next]);
            kept--;
        }
    }
}
