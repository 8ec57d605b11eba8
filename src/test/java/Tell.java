/** All that the calls tell, as a text: two stages that tell the same are alike for whoever asks. */
final class Tell {
    private static final int MOST_UNDONE = 6;

    interface Scene {
        void set(PuppetStage x);
    }

    private Tell() {
    }

    /**
     * A scene, with all that undo() would bring back and all that play() would show. Every part is asked of an
     * object of its own, so that none is used for more than its 512 calls.
     */
    static String whole(Scene scene) {
        StringBuilder told = new StringBuilder();
        for (int puppet = 0; puppet < 2; puppet++) {
            for (int undone = 0; undone <= MOST_UNDONE; undone++) {
                PuppetStage x = made(scene);
                for (int k = 0; k < undone; k++) {
                    told.append(x.undo()).append(' ');
                }
                puppet(x, puppet, told);
            }
            PuppetStage played = made(scene);
            told.append(played.play(puppet, 7)).append(' ');
            puppet(played, puppet, told);
        }
        return told.toString();
    }

    /** Both puppets as they are, without what was ahead of it. */
    static String now(Scene scene) {
        StringBuilder told = new StringBuilder();
        for (int puppet = 0; puppet < 2; puppet++) {
            puppet(made(scene), puppet, told);
        }
        return told.toString();
    }

    static PuppetStage made(Scene scene) {
        PuppetStage x = new PuppetStage();
        scene.set(x);
        return x;
    }

    private static void puppet(PuppetStage x, int puppet, StringBuilder told) {
        for (int what = 0; what < 11; what++) {
            told.append(x.about(puppet, what)).append(' ');
        }
        for (int limb = 0; limb < x.about(puppet, 0); limb++) {
            for (int what = 0; what < 7; what++) {
                told.append(x.told(puppet, limb, what)).append(' ');
            }
            for (int tick = 0; tick < x.about(puppet, 7); tick++) {
                told.append(x.pose(puppet, tick, limb)).append(' ');
            }
        }
        for (int hold = 0; hold < x.about(puppet, 1); hold++) {
            for (int what = 0; what < 9; what++) {
                told.append(x.holds(puppet, hold, what)).append(' ');
            }
        }
        for (int bar = 0; bar < 6; bar++) {
            told.append(x.barAt(puppet, bar, 0)).append(' ').append(x.barAt(puppet, bar, 1)).append(' ');
        }
        for (int what = 0; what < 4; what++) {
            told.append(x.lies(puppet, what)).append(' ').append(x.count(what)).append(' ');
        }
        told.append(x.why(puppet)).append(' ').append(x.isStill(puppet)).append(' ').append(x.round(puppet)).append(' ');
        told.append(x.tangle(puppet)).append(' ').append(x.meet()).append('\n');
    }
}
