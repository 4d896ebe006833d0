/** Cameras with raw numbers that are known beforehand. */
final class Cameras {
    static final int GREY_100 = 100 * (1 + 256 + 65536);
    static final Class<?> INDEX = IndexOutOfBoundsException.class;
    static final Class<?> ARGUMENT = IllegalArgumentException.class;
    static final Class<?> STATE = IllegalStateException.class;

    private Cameras() {
    }

    /** Spoils each place alike. */
    static void spoilAll(Camera camera, int how) {
        for (int place = 0; place < 64; place++) {
            camera.spoil(place % 8, place / 8, how);
        }
    }

    /** One more frame: 255 in the places told as pairs x, y, and 0 elsewhere. */
    static int takeHot(Camera camera, int... places) {
        spoilAll(camera, 1);
        for (int k = 0; k < places.length; k += 2) {
            camera.spoil(places[k], places[k + 1], 2);
        }
        return camera.take(1, 1);
    }

    /** One more frame, 255 in all places of the colours told, and 0 elsewhere. */
    static int takeColours(Camera camera, boolean red, boolean green, boolean blue) {
        boolean[] is = {red, green, blue};
        for (int place = 0; place < 64; place++) {
            int x = place % 8;
            int y = place / 8;
            camera.spoil(x, y, is[x % 2 + y % 2] ? 2 : 1);
        }
        return camera.take(1, 1);
    }

    static Camera withHot(int... places) {
        Camera camera = new Camera();
        takeHot(camera, places);
        return camera;
    }

    /** Six frames: dark ones of a dark scene. */
    static Camera full() {
        Camera camera = new Camera();
        for (int k = 0; k < 6; k++) {
            camera.take(1, 1);
        }
        return camera;
    }
}
