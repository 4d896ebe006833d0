/** Promises 22 to 25: what would be, and the checksum. */
public final class WouldBeTest {
    private static final int WHITE_32 = 32 * (1 + 256 + 65536);

    public static void main(String[] args) {
        wouldClip();
        wouldClipRefused();
        bestTake();
        bestTakeTies();
        bestTakeRefused();
        bestWhite();
        bestWhiteRefused();
        digest();
        Checks.end();
    }

    private static void wouldClip() {
        Camera camera = new Camera();
        camera.spoil(0, 0, 2);
        camera.spoil(1, 0, 1);
        Checks.same("a hot one", camera.wouldClip(1, 1), 1);
        camera.paint(0, 0, 7, 7, 239 * (1 + 256 + 65536));
        // 251 and the draw modulo 8: clipped from 4 on.
        int draw = 0;
        int due = 0;
        for (int place = 0; place < 64; place++) {
            draw = (2 * draw + 5) % 61;
            due += place == 0 || place > 1 && draw % 8 >= 4 ? 1 : 0;
        }
        Checks.same("by the draws", camera.wouldClip(16, 1), due);
        Checks.same("by the same draws", camera.wouldClip(16, 1), due);
        Checks.keeps(camera, "wouldClip", c -> c.wouldClip(16, 1));
        for (int k = 0; k < 6; k++) {
            int would = camera.wouldClip(16, 1);
            Checks.same("then taken", camera.ofFrame(camera.take(16, 1), 3), would);
        }
        camera.paint(0, 0, 7, 7, 0xffffff);
        Checks.same("without room", camera.wouldClip(64, 8), 63);
        Checks.keeps(camera, "wouldClip without room", c -> c.wouldClip(64, 8));
    }

    private static void wouldClipRefused() {
        Camera camera = Cameras.full();
        int[][] wrongs = {{0, 1}, {65, 1}, {1, 0}, {1, 9}, {-1, 1}, {1, -1}, {Integer.MIN_VALUE, 1},
            {Integer.MAX_VALUE, 1}, {1, Integer.MIN_VALUE}, {1, Integer.MAX_VALUE}};
        for (int[] w : wrongs) {
            Checks.refused(camera, "wouldClip", Cameras.ARGUMENT, c -> c.wouldClip(w[0], w[1]));
        }
    }

    private static void bestTake() {
        Camera camera = new Camera();
        camera.paint(0, 0, 7, 7, WHITE_32);
        Camera dark = new Camera();
        dark.take(1, 1);
        // A frame of time t and gain g lies 2 * t * g above a dark one, as far as nothing is clipped.
        int base = (int) (dark.meter(0) + 0.5);
        Checks.same("best for 2", camera.bestTake(base + 2), 16 + 1);
        Checks.same("best for 128", camera.bestTake(base + 128), 16 * 64 + 1);
        Checks.same("best for 96", camera.bestTake(base + 96), 16 * 16 + 3);
        Checks.same("best for 10", camera.bestTake(base + 10), 16 + 5);
        Checks.same("best for 14", camera.bestTake(base + 14), 16 + 7);
        Checks.same("best for 0", camera.bestTake(0), 16 + 1);
        camera.paint(0, 0, 7, 7, 4 * 256);
        // 16 by a time of 64, and eight times that.
        Checks.same("best by the highest gain", camera.bestTake(base + 128), 16 * 64 + 8);
        camera.paint(0, 0, 7, 7, 0);
        camera.paint(1, 0, 1, 0, 32 * 256);
        // 15.5625 in the dark, and a sixteenth more for each of time times gain.
        Checks.same("best by less than 1", camera.bestTake(16), 16 + 7);
        camera.take(1, 1);
        Camera full = Cameras.full();
        full.paint(0, 0, 7, 7, 0xffffff);
        Checks.same("best without room", full.bestTake(0), 16 + 1);
        Checks.same("best for the brightest", full.bestTake(255), 16 * 16 + 1);
        Checks.keeps(full, "bestTake", c -> c.bestTake(100));
        Checks.keeps(camera, "bestTake", c -> c.bestTake(100));
    }

    private static void bestTakeTies() {
        Camera camera = new Camera();
        for (int target : new int[] {0, 15, 16, 255}) {
            Checks.same("dark, all the same", camera.bestTake(target), 16 + 1);
        }
        Cameras.spoilAll(camera, 2);
        Checks.same("hot, all the same", camera.bestTake(0), 16 + 1);
        Cameras.spoilAll(camera, 0);
        camera.paint(0, 0, 7, 7, WHITE_32);
        Camera dark = new Camera();
        dark.take(1, 1);
        int base = (int) (dark.meter(0) + 0.5);
        // 16 by a time of 8, and by shorter ones with a higher gain.
        Checks.same("the smallest gain", camera.bestTake(base + 16), 16 * 8 + 1);
        Checks.same("the smallest gain, 48", camera.bestTake(base + 48), 16 * 8 + 3);
        // Greens alone are metered: where these are dark, reds and blues do not matter.
        camera.paint(0, 0, 7, 7, 255 + 65536 * 255);
        Checks.same("by greens", camera.bestTake(200), 16 + 1);
    }

    private static void bestTakeRefused() {
        Camera camera = new Camera();
        for (int wrong : new int[] {-1, 256, Integer.MIN_VALUE, Integer.MAX_VALUE}) {
            Checks.refused(camera, "bestTake " + wrong, Cameras.ARGUMENT, c -> c.bestTake(wrong));
        }
    }

    private static void bestWhite() {
        Camera camera = new Camera();
        Cameras.takeColours(camera, true, true, true);
        Checks.same("all the same", camera.bestWhite(0, 1), 4);
        Checks.same("all the same, blue", camera.bestWhite(0, 2), 4);
        camera.edit(0, 1, 8);
        // 510 of red, not bounded between: times 0.5 that is 255.
        Checks.same("behind a warm one", camera.bestWhite(0, 1), 2);
        Checks.same("behind a warm one, blue", camera.bestWhite(0, 2), 4);
        camera.edit(0, 2, 2);
        Checks.same("behind a cool one", camera.bestWhite(0, 2), 8);
        for (int k = 0; k < 4; k++) {
            camera.edit(0, 4, 0);
        }
        Checks.same("without room", camera.bestWhite(0, 1), 2);
        Checks.keeps(camera, "bestWhite", c -> c.bestWhite(0, 1));
        Checks.same("dark, all the same", Cameras.withHot().bestWhite(0, 1), 1);
        Camera reds = new Camera();
        Cameras.takeColours(reds, true, false, false);
        Checks.same("red alone", reds.bestWhite(0, 1), 1);
        Checks.same("no blue: the smallest", reds.bestWhite(0, 2), 1);
        reds.edit(0, 3, 2);
        // No red now, and green of 255.
        Checks.same("no red: the smallest", reds.bestWhite(0, 1), 1);
        Camera greens = new Camera();
        Cameras.takeColours(greens, true, true, true);
        greens.edit(0, 1, 1);
        // 63.75 of red, cut behind the edit: 16 gives 255.
        Checks.same("the greatest", greens.bestWhite(0, 1), 16);
        greens.undo(0);
        greens.edit(0, 3, 0);
        Checks.same("of 127 each", greens.bestWhite(0, 1), 4);
        // Greens of 255, 85 and 85; reds of 255, 127.5 twice and 63.75, by 3 / 4 191, 95 twice and 47.
        Checks.same("in the first place", Cameras.withHot(0, 0, 7, 0).bestWhite(0, 1), 3);
    }

    private static void bestWhiteRefused() {
        Camera camera = new Camera();
        Checks.refused(camera, "bestWhite of none", Cameras.INDEX, c -> c.bestWhite(0, 0));
        camera.take(1, 1);
        for (int wrong : new int[] {-1, 1, 6, Integer.MIN_VALUE, Integer.MAX_VALUE}) {
            Checks.refused(camera, "bestWhite frame", Cameras.INDEX, c -> c.bestWhite(wrong, 3));
        }
        for (int wrong : new int[] {-1, 0, 3, Integer.MIN_VALUE, Integer.MAX_VALUE}) {
            Checks.refused(camera, "bestWhite kind", Cameras.ARGUMENT, c -> c.bestWhite(0, wrong));
        }
    }

    private static void digest() {
        long d = 9602L;
        for (int k = 0; k < 8; k++) {
            d *= 31L;
        }
        Checks.same("digest of a new one", new Camera().digest(), d);
        Camera camera = new Camera();
        camera.paint(0, 0, 7, 7, 239 * (1 + 256 + 65536));
        camera.paint(2, 3, 4, 5, 0x123456);
        camera.spoil(3, 3, 2);
        camera.spoil(4, 4, 1);
        camera.map(3, 3, true);
        camera.take(9, 1);
        camera.take(8, 2);
        camera.merge(3, 3);
        camera.edit(1, 5, 0);
        camera.edit(1, 3, 2);
        camera.save(2);
        camera.save(1);
        Checks.same("clips otherwise by a longer time", camera.wouldClip(16, 1) < camera.wouldClip(17, 1), true);
        Checks.same("clips otherwise by a higher gain", camera.wouldClip(16, 1) < camera.wouldClip(16, 2), true);
        Checks.same("digest", camera.digest(), digestOf(camera));
        Checks.keeps(camera, "digest", Camera::digest);
    }

    private static long digestOf(Camera camera) {
        long d = 9602L;
        for (int what = 0; what <= 6; what++) {
            d = d * 31 + camera.many(what);
        }
        for (int frame = 0; frame < camera.many(0); frame++) {
            for (int what = 0; what <= 8; what++) {
                d = d * 31 + camera.ofFrame(frame, what);
            }
            d = d * 31 + camera.word(frame);
            d = d * 31 + (long) Math.floor(camera.meter(frame) * 32);
            for (int place = 0; place < 64; place++) {
                d = d * 31 + camera.raw(frame, place % 8, place / 8);
            }
        }
        for (int file = 0; file < camera.many(1); file++) {
            for (int what = 0; what <= 3; what++) {
                d = d * 31 + camera.ofFile(file, what);
            }
        }
        return d * 31 + camera.wouldClip(16, 1);
    }
}
