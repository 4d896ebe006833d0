/** Promises 1 to 5: sentence by sentence. */
final class ToldEdges {
    private static final Class<?> INDEX = Cameras.INDEX;
    private static final Class<?> ARGUMENT = Cameras.ARGUMENT;

    private ToldEdges() {
    }

    static void tell(Document document) {
        document.says("Promise 1: A new object", "Creates a camera before a dark SCENE.", ToldEdges::newOne);
        String at = "Promise 2: paint";
        document.says(at, "- `toX`: to which x (with it)", ToldEdges::paintWithToX);
        document.says(at, "- `toY`: to which y (with it)", ToldEdges::paintWithToY);
        document.says(at, "- `colour`: RED, and 256 times GREEN, and 65536 times BLUE", ToldEdges::paintColour);
        document.says(at, "Returns how many PLACES were painted.", ToldEdges::paintMany);
        document.says(at, "Throws `IndexOutOfBoundsException` if one of x, y, toX and toY is not 0 to 7", ToldEdges::paintPlaces);
        document.says(at, "Throws `IllegalArgumentException` if toX is less than x", ToldEdges::paintToX);
        document.says(at, "toY less than y", ToldEdges::paintToY);
        document.says(at, "or colour not 0 to 16777215", ToldEdges::paintColours);
        at = "Promise 3: lamp";
        document.says(at, "Returns that of GREEN before, in quarters.", ToldEdges::lampBefore);
        document.says(at, "Throws `IllegalArgumentException` if one of these is not 1 to 16", ToldEdges::lampQuarters);
        at = "Promise 4: spoil";
        document.says(at, "- `how`: 0 GOOD, 1 DEAD, 2 HOT", ToldEdges::spoilHow);
        document.says(at, "Returns how it was.", ToldEdges::spoilBefore);
        document.says(at, "Throws `IndexOutOfBoundsException` if x or y is not 0 to 7",
            () -> Checks.places(Cameras.rich(), "spoil", (c, x, y) -> c.spoil(x, y, 2)));
        document.says(at, "Throws `IllegalArgumentException` if how is not 0 to 2",
            () -> Checks.range(Cameras.rich(), "how", 0, 2, ARGUMENT, (c, v) -> c.spoil(3, 3, v)));
        at = "Promise 5: map";
        document.says(at, "Maps a PLACE, or not any more.", ToldEdges::mapAndBack);
        document.says(at, "Returns how many are MAPPED then.", ToldEdges::mapMany);
        document.says(at, "Throws `IndexOutOfBoundsException` if x or y is not 0 to 7", ToldEdges::mapPlaces);
    }

    private static void newOne() {
        Camera camera = new Camera();
        for (int what = 0; what <= 6; what++) {
            Checks.same("many " + what, camera.many(what), 0);
        }
        for (int place = 0; place < 64; place++) {
            for (int what = 0; what <= 2; what++) {
                Checks.same("dark " + place, camera.ofPlace(place % 8, place / 8, what), 0);
            }
            Checks.same("good " + place, camera.ofPlace(place % 8, place / 8, 4), 0);
            Checks.same("not mapped " + place, camera.ofPlace(place % 8, place / 8, 5), 0);
        }
        Checks.same("nothing is clipped", camera.wouldClip(64, 8), 0);
        Checks.same("the first frame", camera.take(1, 1), 0);
        Checks.same("without files", camera.ofFrame(0, 8), 0);
        Checks.same("the first file", camera.save(0), 0);
        Checks.same("another object is new, too", new Camera().digest(), 8189459741508482L);
    }

    private static boolean isPainted(Camera camera, int x, int y) {
        return camera.ofPlace(x, y, 0) == 1;
    }

    private static void painted(int x, int y, int toX, int toY) {
        Camera camera = new Camera();
        int count = camera.paint(x, y, toX, toY, 1);
        int due = 0;
        for (int place = 0; place < 64; place++) {
            int atX = place % 8;
            int atY = place / 8;
            boolean isDue = atX >= x && atX <= toX && atY >= y && atY <= toY;
            due += isDue ? 1 : 0;
            Checks.same("painted at " + atX + " " + atY, isPainted(camera, atX, atY), isDue);
        }
        Checks.same("how many", count, due);
    }

    private static void paintWithToX() {
        for (int toX = 0; toX <= 7; toX++) {
            painted(0, 3, toX, 4);
        }
        painted(7, 0, 7, 7);
        painted(3, 2, 3, 2);
        painted(3, 2, 4, 2);
    }

    private static void paintWithToY() {
        for (int toY = 0; toY <= 7; toY++) {
            painted(3, 0, 4, toY);
        }
        painted(0, 7, 7, 7);
        painted(2, 3, 2, 3);
        painted(2, 3, 2, 4);
    }

    private static void paintColour() {
        Camera camera = new Camera();
        int[][] due = {{7 + 256 * 8 + 65536 * 9, 7, 8, 9}, {0, 0, 0, 0}, {0xffffff, 255, 255, 255},
            {255, 255, 0, 0}, {256, 0, 1, 0}, {65535, 255, 255, 0}, {65536, 0, 0, 1}};
        for (int[] d : due) {
            camera.paint(7, 7, 7, 7, d[0]);
            for (int colour = 0; colour < 3; colour++) {
                Checks.same("colour " + colour + " of " + d[0], camera.ofPlace(7, 7, colour), d[1 + colour]);
            }
        }
    }

    private static void paintMany() {
        int[][] due = {{0, 0, 0, 0, 1}, {7, 7, 7, 7, 1}, {0, 0, 7, 0, 8}, {0, 0, 0, 7, 8}, {0, 0, 7, 7, 64},
            {1, 2, 3, 6, 15}, {6, 6, 7, 7, 4}};
        Camera camera = new Camera();
        for (int[] d : due) {
            Checks.same("how many", camera.paint(d[0], d[1], d[2], d[3], 5), d[4]);
            Checks.same("how many, again", camera.paint(d[0], d[1], d[2], d[3], 5), d[4]);
        }
    }

    private static void paintPlaces() {
        Camera camera = Cameras.rich();
        Checks.range(camera, "x", 0, 7, INDEX, (c, v) -> c.paint(v, 0, 7, 7, 9));
        Checks.range(camera, "y", 0, 7, INDEX, (c, v) -> c.paint(0, v, 7, 7, 9));
        Checks.range(camera, "toX", 0, 7, INDEX, (c, v) -> c.paint(0, 0, v, 7, 9));
        Checks.range(camera, "toY", 0, 7, INDEX, (c, v) -> c.paint(0, 0, 7, v, 9));
    }

    private static void paintToX() {
        Camera camera = Cameras.rich();
        for (int x = 1; x <= 7; x++) {
            int from = x;
            Checks.same("just x " + x, camera.copy().paint(x, 0, x, 7, 9), 8);
            Checks.refused(camera, "one less than " + x, ARGUMENT, c -> c.paint(from, 0, from - 1, 7, 9));
            Checks.refused(camera, "0, less than " + x, ARGUMENT, c -> c.paint(from, 7, 0, 7, 9));
        }
    }

    private static void paintToY() {
        Camera camera = Cameras.rich();
        for (int y = 1; y <= 7; y++) {
            int from = y;
            Checks.same("just y " + y, camera.copy().paint(0, y, 7, y, 9), 8);
            Checks.refused(camera, "one less than " + y, ARGUMENT, c -> c.paint(0, from, 7, from - 1, 9));
            Checks.refused(camera, "0, less than " + y, ARGUMENT, c -> c.paint(7, from, 7, 0, 9));
        }
    }

    private static void paintColours() {
        Checks.range(Cameras.rich(), "colour", 0, 16777215, ARGUMENT, (c, v) -> c.paint(1, 1, 6, 6, v));
    }

    private static void lampBefore() {
        Camera camera = new Camera();
        int before = 4;
        for (int green : new int[] {1, 16, 16, 7, 4}) {
            Checks.same("before " + green, camera.lamp(17 - green, green, 9), before);
            before = green;
        }
        Checks.outcome(() -> camera.lamp(1, 17, 1));
        Checks.same("behind a refused one", camera.lamp(1, 1, 1), 4);
    }

    private static void lampQuarters() {
        Camera camera = Cameras.rich();
        Checks.range(camera, "red", 1, 16, ARGUMENT, (c, v) -> c.lamp(v, 9, 10));
        Checks.range(camera, "green", 1, 16, ARGUMENT, (c, v) -> c.lamp(9, v, 10));
        Checks.range(camera, "blue", 1, 16, ARGUMENT, (c, v) -> c.lamp(9, 10, v));
    }

    private static void spoilHow() {
        Camera camera = new Camera();
        int[][] due = {{0, 12 + 5}, {1, 0}, {2, 255}, {0, 12 + Cameras.drawBehind(3 * 64 + 1) % 8}};
        for (int frame = 0; frame < due.length; frame++) {
            camera.spoil(0, 0, due[frame][0]);
            camera.take(1, 1);
            Checks.same("raw of " + due[frame][0], camera.raw(frame, 0, 0), due[frame][1]);
            Checks.same("told " + due[frame][0], camera.ofPlace(0, 0, 4), due[frame][0]);
        }
    }

    private static void spoilBefore() {
        Camera camera = new Camera();
        int before = 0;
        for (int how : new int[] {0, 1, 1, 2, 2, 0, 2, 1, 0}) {
            Checks.same("before " + how, camera.spoil(7, 0, how), before);
            before = how;
        }
        Checks.same("another place", camera.spoil(0, 7, 1), 0);
    }

    private static void mapAndBack() {
        Camera camera = new Camera();
        camera.map(7, 0, true);
        Checks.same("mapped", camera.ofPlace(7, 0, 5), 1);
        Checks.same("another is not", camera.ofPlace(0, 7, 5), 0);
        camera.map(7, 0, true);
        Checks.same("mapped twice", camera.ofPlace(7, 0, 5), 1);
        camera.map(7, 0, false);
        Checks.same("not any more", camera.ofPlace(7, 0, 5), 0);
        camera.map(0, 7, false);
        Checks.same("one that never was", camera.ofPlace(0, 7, 5), 0);
    }

    private static void mapMany() {
        Camera camera = new Camera();
        Checks.same("none, told not", camera.map(0, 0, false), 0);
        for (int place = 0; place < 64; place++) {
            Checks.same("mapped", camera.map(place % 8, place / 8, true), place + 1);
            Checks.same("mapped twice", camera.map(place % 8, place / 8, true), place + 1);
        }
        for (int place = 0; place < 64; place++) {
            Checks.same("not any more", camera.map(place % 8, place / 8, false), 63 - place);
            Checks.same("not any more, twice", camera.map(place % 8, place / 8, false), 63 - place);
        }
    }

    private static void mapPlaces() {
        Checks.places(Cameras.rich(), "map", (c, x, y) -> c.map(x, y, true));
        Checks.places(Cameras.rich(), "unmap", (c, x, y) -> c.map(x, y, false));
    }
}
