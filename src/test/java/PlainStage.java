import java.math.BigInteger;
import java.util.ArrayList;
import java.util.List;

/**
 * The document once more, written for plainness alone and with the whole library: lists of records,
 * copies wherever something changes, big integers for roots, fractions for lines that meet.
 * ModelTest asks this and PuppetStage the same.
 */
final class PlainStage {
    static final long BAD = Due.BAD, NO = Due.NO, FULL = Due.FULL, NOTHING = Due.NOTHING, INDEX = Due.INDEX, NONE = Due.NONE;

    record Limb(int parent, int length, int weight) {
    }

    record Pair(int least, int greatest) {
    }

    record Hold(int kind, int bar, int limb, int spot, int length, int taken) {
    }

    record Tick(int x, int y, int tilt) {
    }

    record Place(long x, long y) {
        Place step(long n, int direction) {
            return new Place(x + n * sin(direction), y - n * sin(direction + 16));
        }
    }

    record Way(long excess, long depth) {
        boolean betterThan(Way other) {
            return excess < other.excess || excess == other.excess && depth < other.depth;
        }
    }

    static final class Puppet {
        List<Limb> limbs = new ArrayList<>();
        List<Integer> bends = new ArrayList<>();
        List<Pair> spans = null;
        List<Hold> holds = new ArrayList<>();
        List<Tick> ticks = new ArrayList<>();
        List<List<Integer>> poses = new ArrayList<>();
        Place[] bars = new Place[6];
        Place pin = new Place(0, 0);
        Tick cross = new Tick(0, 100, 0);
        int hand = 0;

        Puppet() {
            for (int k = 0; k < 6; k++) {
                bars[k] = new Place(0, 0);
            }
        }

        Puppet copy() {
            Puppet c = new Puppet();
            c.limbs = new ArrayList<>(limbs);
            c.bends = new ArrayList<>(bends);
            c.spans = spans == null ? null : new ArrayList<>(spans);
            c.holds = new ArrayList<>(holds);
            c.ticks = new ArrayList<>(ticks);
            c.poses = new ArrayList<>(poses);
            c.bars = bars.clone();
            c.pin = pin;
            c.cross = cross;
            c.hand = hand;
            return c;
        }

        Pair span(int limb) {
            return spans == null || limb >= spans.size() ? new Pair(-32, 31) : spans.get(limb);
        }

        boolean fits(int limb, int bend) {
            return bend >= span(limb).least && bend <= span(limb).greatest;
        }

        int direction(int limb) {
            int parent = limbs.get(limb).parent;
            return bends.get(limb) + (parent < 0 ? 0 : direction(parent));
        }

        Place start(int limb) {
            int parent = limbs.get(limb).parent;
            return parent < 0 ? new Place(1024 * pin.x, 1024 * pin.y) : end(parent);
        }

        Place end(int limb) {
            return spot(limb, limbs.get(limb).length);
        }

        Place spot(int limb, int n) {
            return start(limb).step(n, direction(limb));
        }

        Place bar(int k) {
            return new Place(1024L * cross.x, 1024L * cross.y)
                    .step(bars[k].x, cross.tilt + 16).step(bars[k].y, cross.tilt + 32);
        }

        long far(Hold h) {
            if (h.kind == 4) {
                return 0;
            }
            long far = root(square(spot(h.limb, h.spot), bar(h.bar)));
            return h.kind == 1 ? far + root(square(end(0), bar(h.bar))) : far;
        }

        long over(Hold h) {
            long over = switch (h.kind) {
                case 4 -> -spot(h.limb, h.spot).y;
                case 3 -> Math.abs(far(h) - 1024L * h.length) - 1024;
                case 2 -> far(h) - 1024L * (h.length - h.taken);
                default -> far(h) - 1024L * h.length;
            };
            return over > 0 ? over : 0;
        }

        boolean taut(Hold h) {
            int length = h.kind == 2 ? h.length - h.taken : h.length;
            return h.kind != 4 && far(h) >= 1024L * length - 512;
        }

        Way way() {
            long excess = 0;
            for (Hold h : holds) {
                excess += over(h);
            }
            long depth = 0;
            for (int k = 0; k < limbs.size(); k++) {
                depth += limbs.get(k).weight * start(k).y + limbs.get(k).weight * end(k).y;
            }
            return new Way(excess, depth);
        }

        /** All changes of bends, as rows of limb, step, limb, step .., in their order. */
        List<int[]> changes() {
            List<int[]> all = new ArrayList<>();
            int[] steps = hand == 0 ? new int[] {1, -1} : new int[] {-1, 1};
            for (int i = 0; i < limbs.size(); i++) {
                for (int s : steps) {
                    all.add(new int[] {i, s});
                }
            }
            for (int i = 0; i < limbs.size(); i++) {
                for (int j = i + 1; j < limbs.size(); j++) {
                    for (int s : steps) {
                        for (int t : steps) {
                            all.add(new int[] {i, s, j, t});
                        }
                    }
                }
            }
            return all;
        }

        /** The first change by which it lies better, or null. */
        int[] firstBetter() {
            Way now = way();
            List<Integer> before = bends;
            int[] found = null;
            for (int[] change : changes()) {
                List<Integer> after = new ArrayList<>(before);
                boolean fit = true;
                for (int k = 0; k < change.length; k += 2) {
                    after.set(change[k], after.get(change[k]) + change[k + 1]);
                    fit &= fits(change[k], after.get(change[k]));
                }
                bends = after;
                if (fit && way().betterThan(now)) {
                    found = change;
                    break;
                }
            }
            bends = before;
            return found;
        }

        int settle(int n) {
            for (int done = 0; done < n; done++) {
                int[] change = firstBetter();
                if (change == null) {
                    return done;
                }
                for (int k = 0; k < change.length; k += 2) {
                    bends.set(change[k], bends.get(change[k]) + change[k + 1]);
                }
            }
            return n;
        }
    }

    Puppet[] puppets = {new Puppet(), new Puppet()};
    List<Puppet[]> kept = new ArrayList<>();
    long restChanges = 0;

    static long sin(int k) {
        int[] quarter = {0, 100, 200, 297, 392, 483, 569, 650, 724, 792, 851, 903, 946, 980, 1004, 1019, 1024};
        int m = Math.floorMod(k, 64);
        if (m > 32) {
            return -sin(64 - m);
        }
        return m > 16 ? quarter[32 - m] : quarter[m];
    }

    static long square(Place a, Place b) {
        return (a.x - b.x) * (a.x - b.x) + (a.y - b.y) * (a.y - b.y);
    }

    static long root(long square) {
        BigInteger[] r = BigInteger.valueOf(square).sqrtAndRemainder();
        return r[0].longValueExact() + (r[1].signum() > 0 ? 1 : 0);
    }

    private static boolean in(long n, long least, long greatest) {
        return n >= least && n <= greatest;
    }

    private boolean noPuppet(int puppet) {
        return puppet != 0 && puppet != 1;
    }

    private boolean noLimb(int puppet, int limb) {
        return noPuppet(puppet) || !in(limb, 0, puppets[puppet].limbs.size() - 1);
    }

    private boolean noHold(int puppet, int hold) {
        return noPuppet(puppet) || !in(hold, 0, puppets[puppet].holds.size() - 1);
    }

    private static boolean noPlace(int x, int y) {
        return !in(x, -300, 300) || !in(y, -300, 300);
    }

    private void keep() {
        kept.add(new Puppet[] {puppets[0].copy(), puppets[1].copy()});
        if (kept.size() > 5) {
            kept.remove(0);
        }
    }

    long limb(int puppet, int parent, int length, int weight) {
        if (noPuppet(puppet) || parent != -1 && noLimb(puppet, parent) || !in(length, 1, 100) || !in(weight, 0, 50)) {
            return BAD;
        }
        Puppet p = puppets[puppet];
        int k = p.limbs.size();
        if (!p.fits(k, 0)) {
            return NO;
        }
        if (k == 6) {
            return FULL;
        }
        keep();
        p.limbs.add(new Limb(parent, length, weight));
        p.bends.add(0);
        p.poses.clear();
        return k;
    }

    long lose(int puppet) {
        if (noPuppet(puppet)) {
            return BAD;
        }
        Puppet p = puppets[puppet];
        if (p.limbs.isEmpty()) {
            return NO;
        }
        keep();
        int k = p.limbs.size() - 1;
        p.holds.removeIf(h -> h.limb == k);
        p.bends.remove(k);
        p.poses.clear();
        return p.limbs.remove(k).length;
    }

    long pin(int puppet, int x, int y) {
        if (noPuppet(puppet) || noPlace(x, y)) {
            return BAD;
        }
        keep();
        puppets[puppet].pin = new Place(x, y);
        return 0;
    }

    long spans(int puppet, int n) {
        if (noPuppet(puppet) || !in(n, -1, 6)) {
            return BAD;
        }
        keep();
        puppets[puppet].spans = n < 0 ? null : new ArrayList<>();
        for (int k = 0; k < n; k++) {
            puppets[puppet].spans.add(new Pair(-32, 31));
        }
        return n;
    }

    long span(int puppet, int k, int least, int greatest) {
        if (noPuppet(puppet) || !in(least, -32, 31) || !in(greatest, -32, 31) || least > greatest) {
            return BAD;
        }
        Puppet p = puppets[puppet];
        if (p.spans == null) {
            return NOTHING;
        }
        if (!in(k, 0, p.spans.size() - 1)) {
            return INDEX;
        }
        if (k < p.limbs.size() && !in(p.bends.get(k), least, greatest)) {
            return NO;
        }
        keep();
        p.spans.set(k, new Pair(least, greatest));
        return 0;
    }

    long cross(int puppet, int x, int y, int tilt) {
        if (noPuppet(puppet) || noPlace(x, y) || !in(tilt, -32, 31)) {
            return BAD;
        }
        keep();
        puppets[puppet].cross = new Tick(x, y, tilt);
        return 0;
    }

    long bar(int puppet, int k, int a, int b) {
        if (noPuppet(puppet) || !in(k, 0, 5) || !in(a, -100, 100) || !in(b, -100, 100)) {
            return BAD;
        }
        keep();
        puppets[puppet].bars[k] = new Place(a, b);
        return 0;
    }

    long bend(int puppet, int limb, int bend) {
        if (noLimb(puppet, limb)) {
            return BAD;
        }
        if (!puppets[puppet].fits(limb, bend)) {
            return NO;
        }
        keep();
        return puppets[puppet].bends.set(limb, bend);
    }

    long hand(int puppet, int hand) {
        if (noPuppet(puppet) || !in(hand, 0, 1)) {
            return BAD;
        }
        keep();
        long before = puppets[puppet].hand;
        puppets[puppet].hand = hand;
        return before;
    }

    long about(int puppet, int what) {
        if (noPuppet(puppet) || !in(what, 0, 10)) {
            return BAD;
        }
        Puppet p = puppets[puppet];
        long[] all = {p.limbs.size(), p.holds.size(), p.cross.x, p.cross.y, p.cross.tilt, p.hand,
            p.ticks.size(), p.poses.size(), p.spans == null ? NONE : p.spans.size(), p.pin.x, p.pin.y};
        return all[what];
    }

    long told(int puppet, int limb, int what) {
        if (noLimb(puppet, limb) || !in(what, 0, 6)) {
            return BAD;
        }
        Puppet p = puppets[puppet];
        Limb l = p.limbs.get(limb);
        long[] all = {l.length, l.weight, l.parent, p.bends.get(limb), Math.floorMod(p.direction(limb), 64),
            p.span(limb).least, p.span(limb).greatest};
        return all[what];
    }

    long at(int puppet, int limb, int spot, int axis) {
        if (noLimb(puppet, limb) || !in(spot, 0, puppets[puppet].limbs.get(limb).length) || !in(axis, 0, 1)) {
            return BAD;
        }
        Place place = puppets[puppet].spot(limb, spot);
        return axis == 0 ? place.x : place.y;
    }

    long barAt(int puppet, int bar, int axis) {
        if (noPuppet(puppet) || !in(bar, 0, 5) || !in(axis, 0, 1)) {
            return BAD;
        }
        Place place = puppets[puppet].bar(bar);
        return axis == 0 ? place.x : place.y;
    }

    long hold(int puppet, int kindAndBar, int limb, int spot, int length) {
        if (noLimb(puppet, limb) || !in(kindAndBar, 0, 49) || kindAndBar % 10 > 5
                || !in(spot, 0, puppets[puppet].limbs.get(limb).length) || !in(length, 0, 500)) {
            return BAD;
        }
        List<Hold> holds = puppets[puppet].holds;
        if (holds.size() == 12) {
            return FULL;
        }
        keep();
        holds.add(new Hold(kindAndBar / 10, kindAndBar % 10, limb, spot, length, 0));
        return holds.size() - 1;
    }

    long drop(int puppet, int hold) {
        if (noHold(puppet, hold)) {
            return BAD;
        }
        keep();
        return puppets[puppet].holds.remove(hold).kind;
    }

    long pluck(int puppet, int hold, int taken) {
        if (noHold(puppet, hold)) {
            return BAD;
        }
        Hold h = puppets[puppet].holds.get(hold);
        if (h.kind != 2) {
            return NO;
        }
        if (!in(taken, 0, h.length)) {
            return BAD;
        }
        keep();
        puppets[puppet].holds.set(hold, new Hold(h.kind, h.bar, h.limb, h.spot, h.length, taken));
        return h.taken;
    }

    long holds(int puppet, int hold, int what) {
        if (noHold(puppet, hold) || !in(what, 0, 8)) {
            return BAD;
        }
        Puppet p = puppets[puppet];
        Hold h = p.holds.get(hold);
        long[] all = {h.kind, h.limb, h.spot, h.bar, h.length, h.taken, p.far(h), p.over(h), p.taut(h) ? 1 : 0};
        return all[what];
    }

    long isOf(int puppet, int hold, int kind) {
        if (noHold(puppet, hold) || !in(kind, 0, 4)) {
            return BAD;
        }
        int own = puppets[puppet].holds.get(hold).kind;
        return kind == 0 ? (own < 4 ? 1 : 0) : (own == kind ? 1 : 0);
    }

    long lies(int puppet, int what) {
        if (noPuppet(puppet) || !in(what, 0, 3)) {
            return BAD;
        }
        Puppet p = puppets[puppet];
        return switch (what) {
            case 0 -> p.way().excess;
            case 1 -> p.way().depth;
            case 2 -> p.holds.stream().filter(h -> p.over(h) > 0).count();
            default -> p.holds.stream().filter(p::taut).count();
        };
    }

    long why(int puppet) {
        if (noPuppet(puppet)) {
            return BAD;
        }
        Puppet p = puppets[puppet];
        long most = p.holds.stream().mapToLong(p::over).max().orElse(0);
        for (int h = 0; h < p.holds.size(); h++) {
            if (most > 0 && p.over(p.holds.get(h)) == most) {
                return h;
            }
        }
        return NONE;
    }

    long rest(int puppet, int n) {
        if (noPuppet(puppet) || !in(n, 1, 300)) {
            return BAD;
        }
        keep();
        int done = puppets[puppet].settle(n);
        restChanges += done;
        return done;
    }

    long isStill(int puppet) {
        return noPuppet(puppet) ? BAD : puppets[puppet].firstBetter() == null ? 1 : 0;
    }

    long lowest(int puppet) {
        if (noPuppet(puppet)) {
            return BAD;
        }
        Puppet p = puppets[puppet];
        if (p.limbs.isEmpty() || p.limbs.size() > 2) {
            return NO;
        }
        keep();
        List<Integer> before = p.bends;
        List<List<Integer>> ways = new ArrayList<>();
        for (int b = p.span(0).least; b <= p.span(0).greatest; b++) {
            if (p.limbs.size() == 1) {
                ways.add(List.of(b));
                continue;
            }
            for (int c = p.span(1).least; c <= p.span(1).greatest; c++) {
                ways.add(List.of(b, c));
            }
        }
        List<Integer> best = null;
        Way bestWay = null;
        for (List<Integer> bends : ways) {
            p.bends = bends;
            Way way = p.way();
            if (best == null || way.betterThan(bestWay)) {
                best = bends;
                bestWay = way;
            }
        }
        p.bends = new ArrayList<>(best);
        long differ = 0;
        for (int k = 0; k < before.size(); k++) {
            differ += before.get(k).intValue() == best.get(k) ? 0 : 1;
        }
        return differ;
    }

    long tick(int puppet, int x, int y, int tilt) {
        if (noPuppet(puppet) || noPlace(x, y) || !in(tilt, -32, 31)) {
            return BAD;
        }
        Puppet p = puppets[puppet];
        if (p.ticks.size() == 12) {
            return FULL;
        }
        p.ticks.add(new Tick(x, y, tilt));
        p.poses.clear();
        return p.ticks.size();
    }

    long calm(int puppet) {
        if (noPuppet(puppet)) {
            return BAD;
        }
        long before = puppets[puppet].ticks.size();
        puppets[puppet].ticks.clear();
        puppets[puppet].poses.clear();
        return before;
    }

    long play(int puppet, int n) {
        if (noPuppet(puppet) || !in(n, 1, 100)) {
            return BAD;
        }
        Puppet p = puppets[puppet];
        if (p.ticks.isEmpty() || p.limbs.isEmpty()) {
            return NO;
        }
        keep();
        p.poses.clear();
        long done = 0;
        for (Tick t : p.ticks) {
            p.cross = t;
            done += p.settle(n);
            p.poses.add(List.copyOf(p.bends));
        }
        return done;
    }

    long pose(int puppet, int tick, int limb) {
        if (noLimb(puppet, limb)) {
            return BAD;
        }
        List<List<Integer>> poses = puppets[puppet].poses;
        return in(tick, 0, poses.size() - 1) ? poses.get(tick).get(limb) : NONE;
    }

    long round(int puppet) {
        if (noPuppet(puppet)) {
            return BAD;
        }
        Puppet p = puppets[puppet];
        if (p.poses.isEmpty()) {
            return NO;
        }
        int last = p.poses.size() - 1;
        return p.poses.get(0).equals(p.poses.get(last)) && p.ticks.get(0).tilt == p.ticks.get(last).tilt ? 1 : 0;
    }

    long reach(int puppet, int limb, int x, int y) {
        if (noLimb(puppet, limb) || noPlace(x, y)) {
            return BAD;
        }
        keep();
        Puppet now = puppets[puppet];
        Puppet best = null;
        long least = 0;
        for (int tilt = now.cross.tilt - 4; tilt <= now.cross.tilt + 4; tilt++) {
            if (!in(tilt, -32, 31)) {
                continue;
            }
            Puppet trial = now.copy();
            trial.cross = new Tick(now.cross.x, now.cross.y, tilt);
            trial.settle(60);
            long square = square(trial.end(limb), new Place(1024L * x, 1024L * y));
            if (best == null || square < least) {
                best = trial;
                least = square;
            }
        }
        puppets[puppet] = best;
        return least;
    }

    long tangle(int puppet) {
        if (noPuppet(puppet)) {
            return BAD;
        }
        Puppet p = puppets[puppet];
        for (int i = 0; i < p.holds.size(); i++) {
            for (int j = i + 1; j < p.holds.size(); j++) {
                Hold g = p.holds.get(i);
                Hold h = p.holds.get(j);
                if (g.kind < 4 && h.kind < 4
                        && common(p.bar(g.bar), p.spot(g.limb, g.spot), p.bar(h.bar), p.spot(h.limb, h.spot), true)) {
                    return 12L * i + j;
                }
            }
        }
        return NONE;
    }

    long meet() {
        for (int i = 0; i < puppets[0].limbs.size(); i++) {
            for (int j = 0; j < puppets[1].limbs.size(); j++) {
                if (common(puppets[0].start(i), puppets[0].end(i), puppets[1].start(j), puppets[1].end(j), false)) {
                    return 6L * i + j;
                }
            }
        }
        return NONE;
    }

    /**
     * Whether the lines a .. b and c .. d have a place in common (one inside of both). Where they are not
     * parallel, it is a + s (b - a) = c + t (d - c), with s and t as fractions over one divisor.
     */
    static boolean common(Place a, Place b, Place c, Place d, boolean inside) {
        long divisor = times(a, b, c, d);
        if (divisor != 0) {
            long s = times(a, c, c, d);
            long t = times(a, c, a, b);
            if (divisor < 0) {
                divisor = -divisor;
                s = -s;
                t = -t;
            }
            return inside ? in(s, 1, divisor - 1) && in(t, 1, divisor - 1) : in(s, 0, divisor) && in(t, 0, divisor);
        }
        if (inside) {
            return false;
        }
        return on(a, c, d) || on(b, c, d) || on(c, a, b) || on(d, a, b);
    }

    /** The vectors a .. b and c .. d, one across the other. */
    private static long times(Place a, Place b, Place c, Place d) {
        return (b.x - a.x) * (d.y - c.y) - (b.y - a.y) * (d.x - c.x);
    }

    /** Whether a place is on a line: the ways to its two ends are together no longer than it. */
    private static boolean on(Place p, Place a, Place b) {
        return times(a, p, a, b) == 0
                && (p.x - a.x) * (p.x - b.x) + (p.y - a.y) * (p.y - b.y) <= 0;
    }

    long mirror(int puppet) {
        if (noPuppet(puppet)) {
            return BAD;
        }
        Puppet p = puppets[puppet];
        boolean none = p.cross.tilt == -32 || p.bends.contains(-32);
        none |= p.ticks.stream().anyMatch(t -> t.tilt == -32);
        none |= p.poses.stream().anyMatch(b -> b.contains(-32));
        none |= p.spans != null && p.spans.stream().anyMatch(s -> s.least == -32);
        if (none) {
            return NO;
        }
        keep();
        p.pin = new Place(-p.pin.x, p.pin.y);
        p.cross = turned(p.cross);
        p.hand = p.hand == 0 ? 1 : 0;
        for (int k = 0; k < 6; k++) {
            p.bars[k] = new Place(-p.bars[k].x, p.bars[k].y);
        }
        p.bends.replaceAll(b -> -b);
        p.ticks.replaceAll(PlainStage::turned);
        p.poses.replaceAll(pose -> pose.stream().map(b -> -b).toList());
        if (p.spans != null) {
            p.spans.replaceAll(s -> new Pair(-s.greatest, -s.least));
        }
        return 0;
    }

    private static Tick turned(Tick t) {
        return new Tick(-t.x, t.y, -t.tilt);
    }

    long undo() {
        if (kept.isEmpty()) {
            return NO;
        }
        puppets = kept.remove(kept.size() - 1);
        return kept.size();
    }

    long count(int what) {
        return switch (what) {
            case 0 -> puppets[0].limbs.size() + puppets[1].limbs.size();
            case 1 -> puppets[0].holds.size() + puppets[1].holds.size();
            case 2 -> kept.size();
            case 3 -> restChanges;
            default -> BAD;
        };
    }
}
