/** Cameras with raw numbers that are known beforehand. */
final class Cameras {
    static final int GREY_100 = 100 * (1 + 256 + 65536);
    static final Class<?> INDEX = IndexOutOfBoundsException.class;
    static final Class<?> ARGUMENT = IllegalArgumentException.class;
    static final Class<?> STATE = IllegalStateException.class;

    private Cameras() {
    }

    /** Spoils each place alike. */
    static void spoilAll(Camera camera, int how) {
        for (int place = 0; place < 64; place++) {
            camera.spoil(place % 8, place / 8, how);
        }
    }

    /** One more frame: 255 in the places told as pairs x, y, and 0 elsewhere. */
    static int takeHot(Camera camera, int... places) {
        spoilAll(camera, 1);
        for (int k = 0; k < places.length; k += 2) {
            camera.spoil(places[k], places[k + 1], 2);
        }
        return camera.take(1, 1);
    }

    /** One more frame, 255 in all places of the colours told, and 0 elsewhere. */
    static int takeColours(Camera camera, boolean red, boolean green, boolean blue) {
        boolean[] is = {red, green, blue};
        for (int place = 0; place < 64; place++) {
            int x = place % 8;
            int y = place / 8;
            camera.spoil(x, y, is[x % 2 + y % 2] ? 2 : 1);
        }
        return camera.take(1, 1);
    }

    static Camera withHot(int... places) {
        Camera camera = new Camera();
        takeHot(camera, places);
        return camera;
    }

    /** Six frames: dark ones of a dark scene. */
    static Camera full() {
        Camera camera = new Camera();
        for (int k = 0; k < 6; k++) {
            camera.take(1, 1);
        }
        return camera;
    }

    /** The draw behind so many places. */
    static int drawBehind(int places) {
        int draw = 0;
        for (int k = 0; k < places; k++) {
            draw = (2 * draw + 5) % 61;
        }
        return draw;
    }

    /** A first frame: each place told as x, y, RAW has that, all others 0. The lamp is as at first. */
    static Camera withRaw(int... raws) {
        Camera camera = new Camera();
        spoilAll(camera, 1);
        takeRaw(camera, raws);
        return camera;
    }

    /** One more frame: each place told as x, y, RAW has that, all others are as they were broken. */
    static int takeRaw(Camera camera, int... raws) {
        int taken = 64 * camera.many(0);
        for (int k = 0; k < raws.length; k += 3) {
            int x = raws[k];
            int y = raws[k + 1];
            int raw = raws[k + 2];
            int colour = raw - 12 - drawBehind(taken + 8 * y + x + 1) % 8;
            boolean isPainted = raw > 0 && raw < 255;
            camera.spoil(x, y, isPainted ? 0 : raw == 0 ? 1 : 2);
            if (isPainted) {
                camera.paint(x, y, x, y, colour * (1 + 256 + 65536));
            }
        }
        return camera.take(16, 1);
    }

    /** Six frames; in the frame k the green place (k + 1, k) alone is 255, all others are 0. */
    static Camera sixGreens() {
        Camera camera = new Camera();
        spoilAll(camera, 1);
        for (int frame = 0; frame < 6; frame++) {
            camera.spoil(frame + 1, frame, 2);
            camera.take(1 + frame, 8 - frame);
            camera.spoil(frame + 1, frame, 1);
        }
        return camera;
    }

    /** Something of everything: light, broken and mapped places, frames taken and merged, edits, files. */
    static Camera rich() {
        Camera camera = new Camera();
        camera.paint(0, 0, 7, 7, GREY_100);
        camera.paint(2, 3, 5, 6, 30 + 256 * 200 + 65536 * 90);
        camera.lamp(5, 6, 7);
        camera.spoil(1, 0, 1);
        camera.spoil(4, 4, 2);
        camera.map(4, 4, true);
        camera.map(2, 2, true);
        camera.take(16, 1);
        camera.take(7, 3);
        camera.merge(3, 5);
        int[][] edits = {{0, 5, 0}, {0, 1, 6}, {1, 4, 0}, {2, 3, 2}};
        for (int[] e : edits) {
            camera.edit(e[0], e[1], e[2]);
        }
        camera.save(0);
        camera.save(2);
        camera.save(0);
        return camera;
    }

    /** No room left: six frames, six edits of each, six files. */
    static Camera crowded() {
        Camera camera = rich();
        camera.take(3, 2);
        camera.take(64, 8);
        camera.merge(1 + 8 + 16, 40);
        int[] had = {2, 1, 1, 0, 0, 0};
        for (int frame = 0; frame < 6; frame++) {
            for (int k = had[frame]; k < 6; k++) {
                camera.edit(frame, k % 4, 1 + (frame + k) % 2);
            }
        }
        for (int frame = 3; frame < 6; frame++) {
            camera.save(frame);
        }
        return camera;
    }
}
