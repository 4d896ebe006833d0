/** Promises 1 to 5: a new object, and what is told of scene, lamp and places. */
public final class ToldTest {
    public static void main(String[] args) {
        newObject();
        paint();
        paintRefused();
        lamp();
        lampRefused();
        spoil();
        map();
        Checks.end();
    }

    private static void newObject() {
        Camera camera = new Camera();
        for (int what = 0; what <= 6; what++) {
            Checks.same("new many " + what, camera.many(what), 0);
        }
        for (int place = 0; place < 64; place++) {
            for (int what : new int[] {0, 1, 2, 4, 5}) {
                Checks.same("new ofPlace " + place + " " + what, camera.ofPlace(place % 8, place / 8, what), 0);
            }
        }
        Checks.same("new digest", camera.digest(), 8189459741508482L);
        Checks.same("new wouldClip", camera.wouldClip(64, 8), 0);
        Checks.same("new lamp", camera.lamp(1, 1, 1), 4);
        camera.paint(0, 0, 7, 7, Cameras.GREY_100);
        camera.take(1, 1);
        Checks.same("another object", new Camera().digest(), 8189459741508482L);
    }

    private static void paint() {
        Camera camera = new Camera();
        Checks.same("paint all", camera.paint(0, 0, 7, 7, 0xffffff), 64);
        Checks.same("paint one", camera.paint(7, 0, 7, 0, 0), 1);
        Checks.same("paint some", camera.paint(1, 4, 3, 5, 10 + 256 * 20 + 65536 * 30), 6);
        for (int place = 0; place < 64; place++) {
            int x = place % 8;
            int y = place / 8;
            boolean isCorner = x == 7 && y == 0;
            boolean isSome = x >= 1 && x <= 3 && (y == 4 || y == 5);
            for (int colour = 0; colour < 3; colour++) {
                int due = isCorner ? 0 : isSome ? 10 * (colour + 1) : 255;
                Checks.same("painted " + x + " " + y + " " + colour, camera.ofPlace(x, y, colour), due);
            }
        }
        camera.take(16, 1);
        int before = camera.raw(0, 0, 0);
        camera.paint(0, 0, 7, 7, 0);
        Checks.same("raw behind paint", camera.raw(0, 0, 0), before);
    }

    private static void paintRefused() {
        Camera camera = new Camera();
        camera.paint(0, 0, 7, 7, Cameras.GREY_100);
        int[][] outside = {{-1, 0, 7, 7}, {8, 0, 7, 7}, {0, -1, 7, 7}, {0, 8, 7, 7}, {0, 0, -1, 7}, {0, 0, 8, 7},
            {0, 0, 7, -1}, {0, 0, 7, 8}, {Integer.MIN_VALUE, 0, 7, 7}, {0, 0, 7, Integer.MAX_VALUE}};
        for (int[] o : outside) {
            for (int colour : new int[] {0, -1, 16777216}) {
                Checks.refused(camera, "paint outside", Cameras.INDEX, c -> c.paint(o[0], o[1], o[2], o[3], colour));
            }
        }
        Checks.refused(camera, "paint toX", Cameras.ARGUMENT, c -> c.paint(3, 0, 2, 7, 0));
        Checks.refused(camera, "paint toY", Cameras.ARGUMENT, c -> c.paint(0, 3, 7, 2, 0));
        Checks.refused(camera, "paint -1", Cameras.ARGUMENT, c -> c.paint(0, 0, 7, 7, -1));
        Checks.refused(camera, "paint 16777216", Cameras.ARGUMENT, c -> c.paint(0, 0, 7, 7, 16777216));
    }

    private static void lamp() {
        Camera camera = new Camera();
        camera.paint(0, 0, 7, 7, Cameras.GREY_100);
        Checks.same("lamp first", camera.lamp(2, 5, 8), 4);
        Checks.same("lamp second", camera.lamp(2, 4, 8), 5);
        camera.take(16, 1);
        // Draws of 5, 15 and (behind ten) 52.
        Checks.same("lamp red", camera.raw(0, 0, 0), 12 + 50 + 5);
        Checks.same("lamp green", camera.raw(0, 1, 0), 12 + 100 + 7);
        Checks.same("lamp blue", camera.raw(0, 1, 1), 12 + 200 + 4);
        Checks.same("lamp least", camera.lamp(1, 1, 1), 4);
        Checks.same("lamp most", camera.lamp(16, 16, 16), 1);
        Checks.same("lamp behind most", camera.lamp(4, 4, 4), 16);
        Checks.same("lamp and raw", camera.raw(0, 0, 0), 67);
    }

    private static void lampRefused() {
        Camera camera = new Camera();
        camera.paint(0, 0, 7, 7, Cameras.GREY_100);
        for (int wrong : new int[] {0, 17, -1, Integer.MIN_VALUE, Integer.MAX_VALUE}) {
            Checks.refused(camera, "lamp red " + wrong, Cameras.ARGUMENT, c -> c.lamp(wrong, 8, 8));
            Checks.refused(camera, "lamp green " + wrong, Cameras.ARGUMENT, c -> c.lamp(8, wrong, 8));
            Checks.refused(camera, "lamp blue " + wrong, Cameras.ARGUMENT, c -> c.lamp(8, 8, wrong));
        }
        Checks.same("lamp behind refusals", camera.lamp(4, 4, 4), 4);
    }

    private static void spoil() {
        Camera camera = new Camera();
        Checks.same("spoil dead", camera.spoil(2, 3, 1), 0);
        Checks.same("spoil hot", camera.spoil(2, 3, 2), 1);
        Checks.same("spoil as it is", camera.spoil(2, 3, 2), 2);
        Checks.same("spoil other", camera.spoil(3, 2, 1), 0);
        Checks.same("spoilt", camera.ofPlace(2, 3, 4), 2);
        Checks.same("many spoilt", camera.many(5), 2);
        camera.take(1, 1);
        Checks.same("spoil good", camera.spoil(2, 3, 0), 2);
        Checks.same("raw of a frame stays", camera.raw(0, 2, 3), 255);
        Checks.same("many spoilt, less one", camera.many(5), 1);
        for (int wrong : new int[] {-1, 8, Integer.MIN_VALUE, Integer.MAX_VALUE}) {
            Checks.refused(camera, "spoil x " + wrong, Cameras.INDEX, c -> c.spoil(wrong, 0, 1));
            Checks.refused(camera, "spoil y " + wrong, Cameras.INDEX, c -> c.spoil(0, wrong, 3));
        }
        for (int wrong : new int[] {-1, 3, Integer.MIN_VALUE, Integer.MAX_VALUE}) {
            Checks.refused(camera, "spoil how " + wrong, Cameras.ARGUMENT, c -> c.spoil(0, 0, wrong));
        }
    }

    private static void map() {
        Camera camera = new Camera();
        Checks.same("map one", camera.map(0, 7, true), 1);
        Checks.same("map it again", camera.map(0, 7, true), 1);
        Checks.same("map other", camera.map(7, 0, true), 2);
        Checks.same("mapped", camera.ofPlace(0, 7, 5), 1);
        Checks.same("unmap", camera.map(0, 7, false), 1);
        Checks.same("unmapped", camera.ofPlace(0, 7, 5), 0);
        Checks.same("still mapped", camera.ofPlace(7, 0, 5), 1);
        Checks.same("unmap it again", camera.map(0, 7, false), 1);
        Checks.same("a mapped place is as it was", camera.ofPlace(7, 0, 4), 0);
        for (int wrong : new int[] {-1, 8, Integer.MIN_VALUE, Integer.MAX_VALUE}) {
            Checks.refused(camera, "map x " + wrong, Cameras.INDEX, c -> c.map(wrong, 0, true));
            Checks.refused(camera, "map y " + wrong, Cameras.INDEX, c -> c.map(0, wrong, true));
        }
        for (int place = 0; place < 64; place++) {
            camera.map(place % 8, place / 8, true);
        }
        Checks.same("map all", camera.many(2), 64);
    }
}
