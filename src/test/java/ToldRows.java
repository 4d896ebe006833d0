/** Promises 2 to 10: what each call does, and what each number that it takes is. */
final class ToldRows {
    private static final int GREY = 1 + 256 + 65536;

    private ToldRows() {
    }

    static void tell(Document document) {
        tellPlaces(document);
        tellFrames(document);
    }

    private static void tellPlaces(Document document) {
        String at = "Promise 2: paint";
        document.says(at, "Paints the SCENE.", ToldRows::paint);
        document.says(at, "- `x`: from which x", ToldRows::paintX);
        document.says(at, "- `y`: from which y", ToldRows::paintY);
        at = "Promise 3: lamp";
        document.says(at, "Tells the LAMP.", ToldRows::lamp);
        document.says(at, "- `red`: the FACTOR of RED in quarters", () -> lampOf(0));
        document.says(at, "- `green`: that of GREEN", () -> lampOf(1));
        document.says(at, "- `blue`: that of BLUE", () -> lampOf(2));
        at = "Promise 4: spoil";
        document.says(at, "Tells how a PLACE is.", ToldRows::spoil);
        document.says(at, "- `x`: its x", () -> spoilLine(true));
        document.says(at, "- `y`: its y", () -> spoilLine(false));
        at = "Promise 5: map";
        document.says(at, "- `x`: its x", () -> mapLine(true));
        document.says(at, "- `y`: its y", () -> mapLine(false));
        document.says(at, "- `is`: whether it is MAPPED from now on", ToldRows::mapIs);
    }

    private static void tellFrames(Document document) {
        String at = "Promise 6: take";
        document.says(at, "Takes a FRAME.", ToldRows::take);
        document.says(at, "- `time`: the TIME", ToldRows::takeTime);
        document.says(at, "- `gain`: the GAIN", ToldRows::takeGain);
        at = "Promise 7: merge";
        document.says(at, "MERGES FRAMES.", ToldRows::merge);
        document.says(at, "- `limit`: the LIMIT", ToldRows::mergeLimit);
        at = "Promise 8: edit";
        document.says(at, "- `frame`: the FRAME", ToldRows::editFrame);
        document.says(at, "- `kind`: its KIND", ToldRows::editKind);
        document.says(at, "- `number`: its number", ToldRows::editNumber);
        document.says("Promise 9: undo", "- `frame`: the FRAME", ToldRows::undoFrame);
        at = "Promise 10: save";
        document.says(at, "Saves a FILE.", ToldRows::save);
        document.says(at, "- `frame`: the FRAME", ToldRows::saveFrame);
    }

    /** What the dark gives in a place of a first frame. */
    private static int dark(int place) {
        return 12 + Cameras.drawBehind(place + 1) % 8;
    }

    private static void paint() {
        Camera camera = new Camera();
        camera.take(16, 1);
        camera.spoil(1, 0, 1);
        camera.map(1, 0, true);
        camera.paint(0, 0, 7, 7, 40 * GREY);
        camera.paint(3, 3, 4, 4, 70 * GREY);
        Checks.same("painted", camera.ofPlace(2, 2, 0), 40);
        Checks.same("painted over", camera.ofPlace(3, 4, 2), 70);
        Checks.same("a broken place stays so", camera.ofPlace(1, 0, 4), 1);
        Checks.same("a mapped place stays so", camera.ofPlace(1, 0, 5), 1);
        Checks.same("a frame taken ahead of it", camera.raw(0, 0, 0), dark(0));
        camera.take(16, 1);
        Checks.same("a frame taken behind it", camera.raw(1, 0, 0), 40 + 12 + Cameras.drawBehind(65) % 8);
    }

    private static void painted(int x, int y, int toX, int toY) {
        Camera camera = new Camera();
        camera.paint(x, y, toX, toY, 9);
        for (int place = 0; place < 64; place++) {
            boolean isDue = place % 8 >= x && place % 8 <= toX && place / 8 >= y && place / 8 <= toY;
            Checks.same("from (" + x + ", " + y + "), place " + place, camera.ofPlace(place % 8, place / 8, 0), isDue ? 9 : 0);
        }
    }

    private static void paintX() {
        for (int x = 0; x < 8; x++) {
            painted(x, 2, 7, 4);
            painted(x, 5, x, 5);
        }
    }

    private static void paintY() {
        for (int y = 0; y < 8; y++) {
            painted(2, y, 4, 7);
            painted(5, y, 5, y);
        }
    }

    private static void lamp() {
        Camera camera = new Camera();
        camera.paint(0, 0, 7, 7, 40 * GREY);
        camera.take(16, 1);
        camera.lamp(8, 6, 2);
        Checks.same("the scene stays", camera.ofPlace(0, 0, 0), 40);
        Checks.same("a frame taken ahead of it", camera.raw(0, 0, 0), 40 + dark(0));
        camera.take(16, 1);
        int[] places = {0, 1, 9};
        int[] light = {80, 60, 20};
        for (int k = 0; k < 3; k++) {
            Checks.same("colour " + k + " behind it", camera.raw(1, places[k] % 8, places[k] / 8),
                light[k] + 12 + Cameras.drawBehind(64 + places[k] + 1) % 8);
        }
    }

    private static void lampOf(int colour) {
        int[] places = {0, 1, 9};
        for (int quarters = 1; quarters <= 16; quarters++) {
            int[] lamp = {7, 7, 7};
            lamp[colour] = quarters;
            Camera camera = new Camera();
            camera.paint(0, 0, 7, 7, 40 * GREY);
            camera.lamp(lamp[0], lamp[1], lamp[2]);
            camera.take(16, 1);
            for (int k = 0; k < 3; k++) {
                Checks.same("colour " + k + " by " + quarters, camera.raw(0, places[k] % 8, places[k] / 8),
                    10 * lamp[k] + dark(places[k]));
            }
        }
    }

    private static void spoil() {
        Camera camera = new Camera();
        camera.paint(0, 0, 7, 7, 40 * GREY);
        camera.take(16, 1);
        for (int how = 1; how <= 2; how++) {
            camera.spoil(2, 3, how);
            camera.take(16, 1);
            Checks.same("told " + how, camera.ofPlace(2, 3, 4), how);
            Checks.same("RAW there", camera.raw(how, 2, 3), how == 1 ? 0 : 255);
            Checks.same("RAW there, as it was taken ahead", camera.raw(0, 2, 3), 40 + dark(26));
            Checks.same("the scene there", camera.ofPlace(2, 3, 0), 40);
            Checks.same("the camera knows nothing of it", camera.ofPlace(2, 3, 5), 0);
        }
    }

    private static void spoilLine(boolean isX) {
        for (int k = 0; k < 8; k++) {
            int x = isX ? k : 3;
            int y = isX ? 3 : k;
            Camera camera = new Camera();
            camera.spoil(x, y, 2);
            for (int place = 0; place < 64; place++) {
                Checks.same("(" + x + ", " + y + "), place " + place, camera.ofPlace(place % 8, place / 8, 4),
                    place == 8 * y + x ? 2 : 0);
            }
        }
    }

    private static void mapLine(boolean isX) {
        for (int k = 0; k < 8; k++) {
            int x = isX ? k : 4;
            int y = isX ? 4 : k;
            Camera camera = new Camera();
            camera.map(x, y, true);
            for (int place = 0; place < 64; place++) {
                Checks.same("(" + x + ", " + y + "), place " + place, camera.ofPlace(place % 8, place / 8, 5),
                    place == 8 * y + x ? 1 : 0);
            }
        }
    }

    private static void mapIs() {
        Camera camera = new Camera();
        boolean[] told = {false, true, true, false, false, true};
        for (int k = 0; k < told.length; k++) {
            camera.map(6, 1, told[k]);
            Checks.same("told " + k, camera.ofPlace(6, 1, 5), told[k] ? 1 : 0);
            camera.take(1, 1);
            camera.spoil(6, 1, k % 3);
            camera.paint(6, 1, 6, 1, k);
            Checks.same("as it was told, still " + k, camera.ofPlace(6, 1, 5), told[k] ? 1 : 0);
        }
    }

    private static void take() {
        Camera camera = new Camera();
        for (int frame = 0; frame < 6; frame++) {
            camera.paint(0, 0, 7, 7, (30 + frame) * GREY);
            camera.take(16, 1);
            Checks.same("how many", camera.many(0), frame + 1);
            for (int earlier = 0; earlier <= frame; earlier++) {
                Checks.same("frame " + earlier, camera.raw(earlier, 5, 2),
                    30 + earlier + 12 + Cameras.drawBehind(64 * earlier + 22) % 8);
            }
            Checks.same("without edits", camera.ofFrame(frame, 2), 0);
            Checks.same("without files", camera.ofFrame(frame, 8), 0);
        }
    }

    private static void takeTime() {
        for (int time = 1; time <= 64; time++) {
            Camera camera = new Camera();
            camera.paint(0, 0, 7, 7, 55 * GREY);
            camera.take(time, 1);
            Checks.same("light by " + time, camera.raw(0, 0, 0), 55 * time / 16 + dark(0));
            Checks.same("light by " + time + " of the last place", camera.raw(0, 7, 7), 55 * time / 16 + dark(63));
            Checks.same("told", camera.ofFrame(0, 0), time);
            Checks.same("the GAIN", camera.ofFrame(0, 1), 1);
        }
    }

    private static void takeGain() {
        for (int gain = 1; gain <= 8; gain++) {
            Camera camera = new Camera();
            camera.paint(0, 0, 7, 7, 29 * GREY);
            camera.take(15, gain);
            Checks.same("light by " + gain, camera.raw(0, 0, 0), 27 * gain + dark(0));
            Checks.same("light by " + gain + " of the last place", camera.raw(0, 7, 7), 27 * gain + dark(63));
            Checks.same("told", camera.ofFrame(0, 1), gain);
            Checks.same("the TIME", camera.ofFrame(0, 0), 15);
        }
    }

    private static void merge() {
        Camera camera = Cameras.withRaw(0, 0, 100, 1, 0, 30, 7, 7, 200);
        Cameras.takeRaw(camera, 0, 0, 103, 1, 0, 34, 7, 7, 240);
        camera.merge(3, 4);
        int[][] due = {{0, 0, 101}, {1, 0, 32}, {7, 7, 200}, {4, 4, 0}};
        for (int[] d : due) {
            Checks.same("at (" + d[0] + ", " + d[1] + ")", camera.raw(2, d[0], d[1]), d[2]);
        }
        Checks.same("GHOSTS", camera.ofFrame(2, 4), 1);
        Checks.same("FRAMES", camera.many(0), 3);
        Checks.same("no DRAW", camera.many(3), Cameras.drawBehind(128));
    }

    private static void mergeLimit() {
        for (int limit = 0; limit <= 255; limit += 5) {
            Camera camera = new Camera();
            Cameras.spoilAll(camera, 1);
            camera.take(1, 1);
            Cameras.takeRaw(camera, 0, 0, 20, 1, 0, 25, 2, 0, 60, 3, 0, 130, 4, 0, 254, 5, 0, 255);
            camera.merge(3, limit);
            int[] raws = {20, 25, 60, 130, 254, 255};
            for (int x = 0; x < 6; x++) {
                Checks.same(raws[x] + " by " + limit, camera.raw(2, x, 0), raws[x] <= limit ? raws[x] / 2 : 0);
            }
        }
    }

    private static void editFrame() {
        for (int frame = 0; frame < 6; frame++) {
            Camera camera = Cameras.sixGreens();
            camera.edit(frame, 3, 2);
            for (int other = 0; other < 6; other++) {
                Checks.same("edits of " + other, camera.ofFrame(other, 2), other == frame ? 1 : 0);
                Checks.same("picture of " + other, camera.picture(other, other + 1, other, 1), other == frame ? 0.0 : 255.0);
            }
        }
    }

    private static void editKind() {
        // Of 200 in all places: RED, GREEN and BLUE behind each kind.
        int[] numbers = {9, 2, 3, 0, 0, 0};
        double[][] due = {{191.0, 191.0, 191.0}, {100.0, 200.0, 200.0}, {200.0, 200.0, 150.0}, {100.0, 100.0, 100.0},
            {200.0, 200.0, 200.0}, {200.0, 200.0, 200.0}};
        for (int kind = 0; kind < 6; kind++) {
            Camera camera = Cameras.withRaw(0, 0, 200, 3, 0, 200, 3, 3, 200);
            camera.edit(0, kind, numbers[kind]);
            Checks.same("kind " + kind + " is told", camera.ofEdit(0, 0, 0), kind);
            boolean isFlip = kind == 4;
            Checks.same("red by " + kind, camera.picture(0, isFlip ? 7 : 0, 0, 0), due[kind][0]);
            Checks.same("green by " + kind, camera.picture(0, isFlip ? 4 : 3, 0, 1), due[kind][1]);
            Checks.same("blue by " + kind, camera.picture(0, isFlip ? 4 : 3, 3, 2), due[kind][2]);
        }
        Camera mending = Cameras.withHot(2, 2);
        mending.map(2, 2, true);
        mending.edit(0, 5, 0);
        Checks.same("a mend", mending.picture(0, 2, 2, 0), 0.0);
    }

    private static void editNumber() {
        for (int number = 0; number <= 64; number++) {
            Camera camera = Cameras.withRaw(0, 0, 200);
            camera.edit(0, 0, number);
            Checks.same("BLACK " + number, camera.picture(0, 0, 0, 0), 200.0 - number);
            Checks.same("told", camera.ofEdit(0, 0, 1), number);
        }
        for (int number = 1; number <= 16; number++) {
            Camera camera = Cameras.withRaw(0, 0, 61, 7, 7, 62);
            camera.edit(0, 1, number);
            camera.edit(0, 2, 17 - number);
            Checks.same("WARM " + number, camera.picture(0, 0, 0, 0), 15.25 * number);
            Checks.same("COOL " + (17 - number), camera.picture(0, 7, 7, 2), 15.5 * (17 - number));
            Checks.same("told, warm", camera.ofEdit(0, 0, 1), number);
            Checks.same("told, cool", camera.ofEdit(0, 1, 1), 17 - number);
        }
        double[] due = {50.0, 200.0, 155.0};
        for (int number = 0; number <= 2; number++) {
            Camera camera = Cameras.withRaw(0, 0, 100);
            camera.edit(0, 3, number);
            Checks.same("TONE " + number, camera.picture(0, 0, 0, 0), due[number]);
        }
    }

    private static void undoFrame() {
        for (int frame = 0; frame < 6; frame++) {
            Camera camera = Cameras.sixGreens();
            for (int other = 0; other < 6; other++) {
                camera.edit(other, 3, 2);
            }
            Checks.same("taken back of " + frame, camera.undo(frame), 3);
            for (int other = 0; other < 6; other++) {
                Checks.same("edits of " + other, camera.ofFrame(other, 2), other == frame ? 0 : 1);
                Checks.same("picture of " + other, camera.picture(other, other + 1, other, 1), other == frame ? 255.0 : 0.0);
            }
        }
    }

    private static void save() {
        Camera camera = Cameras.withHot(2, 2);
        camera.edit(0, 3, 0);
        int word = camera.word(0);
        camera.save(0);
        Checks.same("FILES", camera.many(1), 1);
        Checks.same("its FRAME", camera.ofFile(0, 0), 0);
        Checks.same("its VERSION", camera.ofFile(0, 1), 1);
        Checks.same("its EDITS", camera.ofFile(0, 2), 1);
        Checks.same("its word", camera.ofFile(0, 3), word);
        Checks.same("FILES of the FRAME", camera.ofFrame(0, 8), 1);
        Checks.same("the FRAME keeps its EDITS", camera.ofFrame(0, 2), 1);
        Checks.same("the FRAME keeps its word", camera.word(0), word);
    }

    private static void saveFrame() {
        for (int frame = 0; frame < 6; frame++) {
            Camera camera = Cameras.sixGreens();
            camera.save(frame);
            Checks.same("FRAME of the FILE", camera.ofFile(0, 0), frame);
            Checks.same("word of the FILE", camera.ofFile(0, 3), Cameras.withHot(frame + 1, frame).word(0));
            for (int other = 0; other < 6; other++) {
                Checks.same("FILES of " + other, camera.ofFrame(other, 8), other == frame ? 1 : 0);
            }
        }
    }
}
