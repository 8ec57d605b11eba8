/** Promises 31 to 35: every sentence that names a boundary case. */
public final class EdgesInTheWayTest {
    private static final long BAD = Due.BAD, NO = Due.NO, NONE = Due.NONE;

    public static void main(String[] args) {
        tangleNumbers();
        tangleOfFew();
        tangleOfTheLast();
        tangleNeedsBothSides();
        tangleOfEveryLimb();
        meetOfNone();
        meetOfTheLast();
        meetAtOnePlace();
        mirrorNumbers();
        mirrorOfTilts();
        mirrorOfBends();
        mirrorOfSpans();
        mirrorOfTicks();
        mirrorOfPoses();
        mirrorOfOthers();
        mirrorTwice();
        undoOfNone();
        undoFive();
        undoComesRound();
        undoBringsBackBoth();
        countNumbers();
        countOfFull();
        countOfUndone();
        askingChangesNothing();
        Due.finish();
    }

    private static void due(String call, long got, long want) {
        Due.due(call, got, want);
    }

    /** Limb 0 lies on y = 0 from x = 0 to 20, the cross is level above it; bar 1 is above its end. */
    private static final Tell.Scene TABLE = x -> {
        x.limb(0, -1, 20, 1);
        x.bend(0, 0, 16);
        x.bar(0, 1, 20, 0);
        x.bar(0, 2, 10, 0);
    };

    /** Promise 31: 'BAD'. */
    private static void tangleNumbers() {
        Edge.puppets("tangle", Edge.LIVELY, (x, n) -> x.tangle(n));
    }

    /** 'NONE': no strings, one, two side by side; and the ground is none of them. */
    private static void tangleOfFew() {
        PuppetStage x = Tell.made(TABLE);
        due("none", x.tangle(0), NONE);
        x.hold(0, 0, 0, 20, 0);
        due("one", x.tangle(0), NONE);
        x.hold(0, 41, 0, 0, 0);
        due("the ground", x.tangle(0), NONE);
        x.hold(0, 31, 0, 0, 0);
        due("two", x.tangle(0), 2);
        due("the other's", x.tangle(1), NONE);
    }

    /** 'the least pair of HOLDS i below j: 12 * i + j', up to 10 and 11. */
    private static void tangleOfTheLast() {
        PuppetStage x = Tell.made(TABLE);
        for (int h = 0; h < 10; h++) {
            x.hold(0, 2, 0, 10, 0);
        }
        x.hold(0, 0, 0, 9, 0);
        due("eleven", x.tangle(0), NONE);
        x.bar(0, 3, 9, 0);
        x.hold(0, 3, 0, 0, 0);
        due("the last two", x.tangle(0), 12 * 10 + 11);
        x.drop(0, 0);
        due("one number ahead", x.tangle(0), 12 * 9 + 10);
        x.hold(0, 1, 0, 5, 0);
        due("0 and 11, ahead of 9 and 10", x.tangle(0), 11);
    }

    /** 'at a place that is inside of both, on one side and the other of each'. */
    private static void tangleNeedsBothSides() {
        due("the end just beyond the line", slanting(100, -99), 1);
        due("the end on the line", slanting(100, -100), NONE);
        due("the end just ahead of the line", slanting(99, -100), NONE);
        PuppetStage x = Tell.made(TABLE);
        x.hold(0, 2, 0, 10, 0);
        x.hold(0, 0, 0, 10, 0);
        due("to one spot", x.tangle(0), NONE);
        x.drop(0, 1);
        x.hold(0, 2, 0, 20, 0);
        due("from one bar", x.tangle(0), NONE);
        x.drop(0, 1);
        x.hold(0, 2, 0, 10, 0);
        due("the same twice", x.tangle(0), NONE);
        x.drop(0, 1);
        x.hold(0, 0, 0, 11, 0);
        due("by a unit", x.tangle(0), 1);
        x.drop(0, 1);
        x.hold(0, 0, 0, 9, 0);
        due("not by a unit", x.tangle(0), NONE);
        PuppetStage y = Tell.made(TABLE);
        y.bar(0, 3, 10, -100);
        y.hold(0, 3, 0, 10, 0);
        y.hold(0, 0, 0, 20, 0);
        due("a string without length", y.tangle(0), NONE);
        y.bar(0, 3, 0, -100);
        y.bar(0, 4, 20, -100);
        y.drop(0, 1);
        y.drop(0, 0);
        y.hold(0, 3, 0, 15, 0);
        y.hold(0, 4, 0, 5, 0);
        due("one over the other in one line", y.tangle(0), NONE);
        y.hold(0, 2, 0, 10, 0);
        due("an end inside of both", y.tangle(0), NONE);
    }

    /** One string from above to the middle of the limb, one from its beginning to a bar near its other end. */
    private static long slanting(int crossY, int b) {
        PuppetStage x = Tell.made(TABLE);
        x.cross(0, 0, crossY, 0);
        x.bar(0, 4, 20, b);
        x.hold(0, 4, 0, 0, 0);
        x.hold(0, 2, 0, 10, 0);
        return x.tangle(0);
    }

    /** Six limbs hang one from the other; a string to the end of the last goes through those to ends above it. */
    private static void tangleOfEveryLimb() {
        PuppetStage x = new PuppetStage();
        x.pin(0, 0, 90);
        for (int k = 0; k < 6; k++) {
            x.limb(0, k - 1, 10, 1);
        }
        x.bar(0, 0, -20, -50);
        x.bar(0, 5, -10, 0);
        x.hold(0, 5, 5, 10, 0);
        x.hold(0, 0, 0, 10, 0);
        due("to limb 0, through it", x.tangle(0), 1);
        x.drop(0, 1);
        x.hold(0, 0, 4, 10, 0);
        due("to limb 4, through it", x.tangle(0), 1);
        x.drop(0, 1);
        x.hold(0, 0, 5, 10, 0);
        due("to limb 5, to its end", x.tangle(0), NONE);
        x.drop(0, 0);
        x.hold(0, 5, 0, 0, 0);
        due("to limb 0, above it", x.tangle(0), NONE);
    }

    /** Promise 32: 'NONE': without limbs of one, the other, or both. */
    private static void meetOfNone() {
        Edge.taken("neither has limbs", Edge.NEW, x -> x.meet(), NONE);
        Edge.taken("puppet 0 alone", x -> x.limb(0, -1, 5, 5), x -> x.meet(), NONE);
        Edge.taken("puppet 1 alone", x -> x.limb(1, -1, 5, 5), x -> x.meet(), NONE);
        Edge.taken("both", x -> {
            x.limb(0, -1, 5, 5);
            x.limb(1, -1, 5, 5);
        }, x -> x.meet(), 0);
        Edge.taken("one lost again", x -> {
            x.limb(0, -1, 5, 5);
            x.limb(1, -1, 5, 5);
            x.lose(1);
        }, x -> x.meet(), NONE);
    }

    /** '6 times the LIMB of PUPPET 0, and that of PUPPET 1, the least pair', up to 5 and 5. */
    private static void meetOfTheLast() {
        PuppetStage x = new PuppetStage();
        for (int k = 0; k < 6; k++) {
            x.limb(0, -1, k == 5 ? 50 : 1, 1);
            x.limb(1, -1, k == 5 ? 50 : 1, 1);
        }
        x.bend(0, 5, 16);
        x.pin(1, 45, 10);
        due("5 and 5", x.meet(), 35);
        x.pin(1, 45, 1);
        due("5 and 0", x.meet(), 30);
        x.pin(1, 0, 10);
        due("0 and 5", x.meet(), 5);
        x.pin(1, -1, 10);
        due("none", x.meet(), NONE);
    }

    /** 'if their lines from beginning to end have a place in common': one is enough, at either end of either. */
    private static void meetAtOnePlace() {
        int[][] touching = {{0, 0}, {0, -20}, {20, 0}, {20, -20}};
        int[] bends = {16, 16, -16, -16};
        for (int k = 0; k < 4; k++) {
            PuppetStage x = new PuppetStage();
            x.limb(0, -1, 20, 1);
            x.limb(1, -1, 20, 1);
            x.bend(1, 0, bends[k]);
            x.pin(1, touching[k][0], touching[k][1]);
            due("end to end", x.meet(), 0);
            x.pin(1, touching[k][0] + 1, touching[k][1]);
            due("a unit to the right", x.meet(), NONE);
            x.pin(1, touching[k][0], touching[k][1] < 0 ? -21 : 1);
            due("a unit beyond", x.meet(), NONE);
        }
        PuppetStage y = new PuppetStage();
        y.limb(0, -1, 20, 1);
        y.limb(1, -1, 20, 1);
        for (int pin = -20; pin <= 20; pin++) {
            y.pin(1, 0, pin);
            due("in one line, from " + pin, y.meet(), 0);
        }
        y.pin(1, 0, -21);
        due("one line, just below", y.meet(), NONE);
        y.pin(1, 0, 21);
        due("one line, just above", y.meet(), NONE);
    }

    /** Promise 33: 'BAD'. */
    private static void mirrorNumbers() {
        Edge.puppets("mirror", Edge.LIVELY, (x, n) -> x.mirror(n));
    }

    /** 'NO: a TILT .. is -32'; -31 and 31 are turned. */
    private static void mirrorOfTilts() {
        Edge.refused("tilt -32", x -> x.cross(0, 1, 2, -32), x -> x.mirror(0), NO);
        Edge.taken("the other's tilt -32", x -> x.cross(0, 1, 2, -32), x -> x.mirror(1), 0);
        for (int tilt : new int[] {-31, 0, 31}) {
            PuppetStage x = Tell.made(s -> s.cross(0, -300, 300, tilt));
            due("mirror", x.mirror(0), 0);
            due("tilt", x.about(0, 4), -tilt);
            due("x", x.about(0, 2), 300);
            due("y", x.about(0, 3), 300);
        }
    }

    private static Tell.Scene limbs(int bent, int bend) {
        return x -> {
            for (int k = 0; k < 6; k++) {
                x.limb(0, -1, 5, 0);
                x.bend(0, k, k == bent ? bend : 31);
            }
        };
    }

    /** '.. BEND .. is -32': of any limb that there is. */
    private static void mirrorOfBends() {
        for (int k = 0; k < 6; k++) {
            int limb = k;
            Edge.refused("bend " + k, limbs(k, -32), x -> x.mirror(0), NO);
            PuppetStage x = Tell.made(limbs(limb, -31));
            due("mirror", x.mirror(0), 0);
            for (int n = 0; n < 6; n++) {
                due("bend " + n, x.told(0, n, 3), n == limb ? 31 : -31);
            }
        }
        Edge.taken("a limb that is lost", x -> {
            limbs(5, -32).set(x);
            x.lose(0);
        }, x -> x.mirror(0), 0);
        Edge.taken("the other's", limbs(0, -32), x -> x.mirror(1), 0);
    }

    /** '.. or the least of a pair of SPANS is -32', whether there is a limb for it or not; MISSING stay so. */
    private static void mirrorOfSpans() {
        for (int k = 0; k < 6; k++) {
            int pair = k;
            Tell.Scene scene = x -> {
                x.limb(0, -1, 5, 5);
                x.spans(0, 6);
                for (int n = 0; n < 6; n++) {
                    x.span(0, n, n == pair ? -32 : -31, 31);
                }
            };
            Edge.refused("pair " + k, scene, x -> x.mirror(0), NO);
        }
        Edge.taken("no pairs", x -> x.spans(0, 0), x -> x.mirror(0), 0);
        Edge.taken("no pairs stay", x -> x.spans(0, 0), x -> {
            x.mirror(0);
            return x.about(0, 8);
        }, 0);
        Edge.taken("missing", x -> x.limb(0, -1, 5, 5), x -> x.mirror(0), 0);
        Edge.taken("missing stay", x -> x.limb(0, -1, 5, 5), x -> {
            x.mirror(0);
            return x.about(0, 8);
        }, NONE);
        Edge.taken("pairs that are missing now", x -> {
            x.spans(0, 2);
            x.spans(0, -1);
        }, x -> x.mirror(0), 0);
        Edge.taken("fewer pairs", x -> {
            x.spans(0, 2);
            x.spans(0, 1);
            x.span(0, 0, -31, 31);
        }, x -> x.mirror(0), 0);
        PuppetStage six = new PuppetStage();
        six.spans(0, 6);
        for (int k = 0; k < 6; k++) {
            six.span(0, k, -k, 2 * k);
        }
        due("six pairs", six.mirror(0), 0);
        due("they stay", six.about(0, 8), 6);
        for (int k = 0; k < 6; k++) {
            six.limb(0, -1, 5, 5);
            due("least " + k, six.told(0, k, 5), -2 * k);
            due("greatest " + k, six.told(0, k, 6), k);
        }
        int[][] turned = {{-31, 31}, {-31, -31}, {31, 31}, {-5, 9}, {0, 0}};
        for (int[] t : turned) {
            PuppetStage x = new PuppetStage();
            x.spans(0, 1);
            x.span(0, 0, t[0], t[1]);
            due("mirror", x.mirror(0), 0);
            if (t[0] <= 0 && t[1] >= 0) {
                x.limb(0, -1, 5, 5);
                due("least", x.told(0, 0, 5), -t[1]);
                due("greatest", x.told(0, 0, 6), -t[0]);
            } else {
                due("no bend of 0 here, either", x.limb(0, -1, 5, 5), NO);
            }
        }
    }

    /** 'a TILT (of a tick, too)': of the first, of the last of twelve. */
    private static void mirrorOfTicks() {
        for (int k = 0; k < 12; k++) {
            int least = k;
            Tell.Scene scene = x -> {
                for (int t = 0; t < 12; t++) {
                    x.tick(0, t, 2, t == least ? -32 : 31);
                }
            };
            Edge.refused("tick " + k, scene, x -> x.mirror(0), NO);
            PuppetStage x = Tell.made(scene);
            x.calm(0);
            due("no ticks any more", x.mirror(0), 0);
        }
        PuppetStage y = new PuppetStage();
        y.limb(0, -1, 5, 5);
        for (int t = 0; t < 12; t++) {
            y.tick(0, 10 * t, 2, t - 31);
        }
        due("mirror", y.mirror(0), 0);
        y.play(0, 1);
        due("the last tick's x", y.about(0, 2), -110);
        due("the last tick's y", y.about(0, 3), 2);
        due("the last tick's tilt", y.about(0, 4), 20);
    }

    /** '.. BEND (of a POSE, too)': of the first, of the last of twelve, though the bend itself is another one now. */
    private static void mirrorOfPoses() {
        for (int k = 0; k < 12; k++) {
            int least = k;
            Tell.Scene scene = x -> {
                x.limb(0, -1, 20, 0);
                x.hold(0, 0, 0, 20, 0);
                x.bend(0, 0, -20);
                for (int t = 0; t < 12; t++) {
                    x.tick(0, t == least ? 0 : -20, t == least ? 20 : 0, 0);
                }
                x.play(0, 100);
                x.bend(0, 0, 3);
            };
            PuppetStage x = Tell.made(scene);
            for (int t = 0; t < 12; t++) {
                due("pose " + t, x.pose(0, t, 0), t == least ? -32 : -16);
            }
            Edge.refused("pose " + k, scene, s -> s.mirror(0), NO);
            x.undo();
            x.undo();
            due("no poses any more", x.mirror(0), 0);
        }
        Edge.taken("a limb that was lost ahead of the play", x -> {
            limbs(5, -32).set(x);
            x.lose(0);
            x.tick(0, 0, 100, 0);
            x.play(0, 1);
        }, x -> x.mirror(0), 0);
        PuppetStage y = Tell.made(limbs(5, -31));
        y.tick(0, 0, 100, 0);
        y.tick(0, 0, 100, 0);
        y.play(0, 1);
        due("mirror", y.mirror(0), 0);
        for (int t = 0; t < 2; t++) {
            for (int n = 0; n < 6; n++) {
                due("pose", y.pose(0, t, n), n == 5 ? 31 : -31);
            }
        }
    }

    /** Places at their farthest, and 'HAND is the other one'. */
    private static void mirrorOfOthers() {
        PuppetStage x = new PuppetStage();
        x.pin(0, -300, -300);
        x.bar(0, 0, 100, 100);
        x.bar(0, 5, -100, -100);
        due("mirror", x.mirror(0), 0);
        due("pin x", x.about(0, 9), 300);
        due("pin y", x.about(0, 10), -300);
        due("bar 0 x", x.barAt(0, 0, 0), -102400);
        due("bar 0 y", x.barAt(0, 0, 1), 204800);
        due("bar 5 x", x.barAt(0, 5, 0), 102400);
        due("bar 5 y", x.barAt(0, 5, 1), 0);
        due("hand", x.about(0, 5), 1);
        due("the other's hand", x.about(1, 5), 0);
        due("mirror", x.mirror(0), 0);
        due("hand", x.about(0, 5), 0);
    }

    /** What is turned twice is as it was. */
    private static void mirrorTwice() {
        for (int p = 0; p < 2; p++) {
            int puppet = p;
            String once = Tell.now(x -> {
                Edge.LIVELY.set(x);
                x.mirror(puppet);
            });
            String twice = Tell.now(x -> {
                Edge.LIVELY.set(x);
                x.mirror(puppet);
                x.mirror(puppet);
            });
            Due.isTrue("turned", !once.equals(Tell.now(Edge.LIVELY)));
            Due.isTrue("turned back", twice.equals(Tell.now(Edge.LIVELY)));
        }
    }

    /** Promise 34: 'NO: none is'. */
    private static void undoOfNone() {
        Edge.refused("a new object", Edge.NEW, x -> x.undo(), NO);
        Edge.refused("one undone", x -> {
            x.pin(0, 1, 2);
            x.undo();
        }, x -> x.undo(), NO);
        Edge.refused("all five undone", x -> {
            Edge.LIVELY.set(x);
            for (int k = 0; k < 5; k++) {
                x.undo();
            }
        }, x -> x.undo(), NO);
    }

    /** 'The latest 5 are kept': with 1 .. 7 changes so many can be undone, and no more. */
    private static void undoFive() {
        for (int changes = 0; changes <= 7; changes++) {
            PuppetStage x = new PuppetStage();
            for (int k = 1; k <= changes; k++) {
                x.pin(1, k, -k);
                due("kept", x.count(2), Math.min(5, k));
            }
            int kept = Math.min(5, changes);
            for (int k = 1; k <= kept; k++) {
                due("undo", x.undo(), kept - k);
                due("kept", x.count(2), kept - k);
                due("pin x", x.about(1, 9), changes - k);
                due("pin y", x.about(1, 10), k - changes);
            }
            due("no more", x.undo(), NO);
            due("pin x", x.about(1, 9), changes - kept);
        }
    }

    /** Changes and undos in turn, many times round the five. */
    private static void undoComesRound() {
        PuppetStage x = new PuppetStage();
        int[] pins = new int[200];
        int depth = 0;
        int kept = 0;
        for (int turn = 0; turn < 40; turn++) {
            for (int k = 0; k < 1 + turn % 4; k++) {
                depth++;
                kept = Math.min(5, kept + 1);
                pins[depth] = turn + 10 * k;
                due("pin", x.pin(0, pins[depth], 0), 0);
            }
            for (int k = 0; k < turn % 3 && kept > 0; k++) {
                depth--;
                kept--;
                due("undo", x.undo(), kept);
            }
            due("pin x", x.about(0, 9), pins[depth]);
            due("kept", x.count(2), kept);
        }
    }

    /** 'both PUPPETS .. are as they were', five changes deep, and what was ahead of them is not asked for. */
    private static void undoBringsBackBoth() {
        Tell.Scene before = x -> {
            Edge.LIVELY.set(x);
            x.rest(1, 2);
        };
        Edge.Call[] changes = {x -> x.mirror(1), x -> x.lose(0), x -> x.play(0, 3), x -> x.spans(1, 2), x -> x.drop(0, 0)};
        for (int undone = 0; undone <= 5; undone++) {
            int back = undone;
            String there = Tell.now(x -> {
                before.set(x);
                for (int k = 0; k < 5; k++) {
                    Due.isTrue("is a change", !Edge.isRefusal(changes[k].on(x)));
                }
                for (int k = 0; k < back; k++) {
                    x.undo();
                }
            });
            String here = Tell.now(x -> {
                before.set(x);
                for (int k = 0; k < 5 - back; k++) {
                    changes[k].on(x);
                }
            });
            due("undone " + undone + ": but for the kept ones", withoutKept(there).equals(withoutKept(here)) ? 1 : 0, 1);
        }
    }

    /** How many changes are kept is the one thing that an undo leaves otherwise. */
    private static String withoutKept(String told) {
        StringBuilder without = new StringBuilder();
        for (String line : told.split("\n")) {
            String[] words = line.split(" ");
            int kept = words.length - 5 - 3;
            for (int k = 0; k < words.length; k++) {
                without.append(k == kept ? "" : words[k]).append(' ');
            }
        }
        return without.toString();
    }

    /** Promise 35: what 0 .. 3. */
    private static void countNumbers() {
        Edge.bounds("count", Edge.LIVELY, (x, n) -> x.count(n), 0, 3, BAD);
        for (int what = 0; what < 4; what++) {
            int asked = what;
            Edge.taken("count of nothing", Edge.NEW, x -> x.count(asked), 0);
        }
    }

    private static void countOfFull() {
        PuppetStage x = new PuppetStage();
        for (int p = 0; p < 2; p++) {
            for (int k = 0; k < 7; k++) {
                x.limb(p, -1, 5, 5);
            }
            for (int k = 0; k < 13; k++) {
                x.hold(p, 0, 5, 5, 5);
            }
        }
        due("limbs", x.count(0), 12);
        due("holds", x.count(1), 24);
        due("kept", x.count(2), 5);
        x.lose(1);
        due("limbs", x.count(0), 11);
        due("holds", x.count(1), 12);
        due("kept", x.count(2), 5);
    }

    /** 'changes of BENDS that calls of rest() did in all (undone ones, too)', of both puppets, and of no other call. */
    private static void countOfUndone() {
        PuppetStage x = new PuppetStage();
        for (int p = 0; p < 2; p++) {
            x.limb(p, -1, 5, 5);
            x.bend(p, 0, 9);
        }
        due("refused", x.rest(0, 301), BAD);
        due("none", x.count(3), 0);
        due("rest", x.rest(0, 4), 4);
        due("rest", x.rest(1, 300), 9);
        due("in all", x.count(3), 13);
        x.undo();
        due("in all", x.count(3), 13);
        due("again", x.rest(1, 300), 9);
        due("in all", x.count(3), 22);
        x.tick(0, 0, 100, 0);
        due("play", x.play(0, 2), 2);
        due("reach", x.reach(0, 0, 0, -5), 0);
        x.bend(0, 0, 7);
        due("isStill", x.isStill(0), 0);
        due("lowest", x.lowest(0), 1);
        due("in all", x.count(3), 22);
    }

    /** No call that only asks is seen by a later one. */
    private static void askingChangesNothing() {
        Edge.unseen("about", Edge.LIVELY, x -> x.about(0, 7));
        Edge.unseen("told", Edge.LIVELY, x -> x.told(0, 1, 4));
        Edge.unseen("at", Edge.LIVELY, x -> x.at(1, 2, 3, 0));
        Edge.unseen("barAt", Edge.LIVELY, x -> x.barAt(1, 1, 1));
        Edge.unseen("holds", Edge.LIVELY, x -> x.holds(0, 1, 6));
        Edge.unseen("isOf", Edge.LIVELY, x -> x.isOf(0, 1, 0));
        Edge.unseen("lies", Edge.LIVELY, x -> x.lies(1, 0));
        Edge.unseen("why", Edge.LIVELY, x -> x.why(0));
        Edge.unseen("isStill", Edge.LIVELY, x -> x.isStill(1));
        Edge.unseen("pose", Edge.LIVELY, x -> x.pose(0, 1, 1));
        Edge.unseen("round", Edge.LIVELY, x -> x.round(0));
        Edge.unseen("tangle", Edge.LIVELY, x -> x.tangle(0));
        Edge.unseen("meet", Edge.LIVELY, x -> x.meet());
        Edge.unseen("count", Edge.LIVELY, x -> x.count(3));
    }
}
