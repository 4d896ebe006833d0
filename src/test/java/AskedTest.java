/** Promises 14 to 21: what one asks of frames, edits, zones, files and places. */
public final class AskedTest {
    private static final int[] FAR = {-1, 6, 9, Integer.MIN_VALUE, Integer.MAX_VALUE};

    public static void main(String[] args) {
        ofFrame();
        sharp();
        white();
        ofEdit();
        zoneAndMeter();
        zoneRefused();
        ofFile();
        ofPlace();
        many();
        apart();
        Checks.end();
    }

    private static void ofFrame() {
        Camera camera = new Camera();
        Checks.refused(camera, "ofFrame of none", Cameras.INDEX, c -> c.ofFrame(0, 9));
        camera.spoil(1, 1, 2);
        camera.take(64, 8);
        camera.take(1, 2);
        camera.edit(0, 4, 0);
        camera.save(1);
        camera.save(0);
        camera.save(0);
        int[] due = {64, 8, 1, 1, 0};
        for (int what = 0; what < due.length; what++) {
            Checks.same("ofFrame " + what, camera.ofFrame(0, what), due[what]);
        }
        Checks.same("time of the second", camera.ofFrame(1, 0), 1);
        Checks.same("gain of the second", camera.ofFrame(1, 1), 2);
        Checks.same("files of the first", camera.ofFrame(0, 8), 2);
        Checks.same("files of the second", camera.ofFrame(1, 8), 1);
        for (int wrong : FAR) {
            Checks.refused(camera, "ofFrame frame " + wrong, Cameras.INDEX, c -> c.ofFrame(wrong, 9));
        }
        Checks.refused(camera, "ofFrame 2", Cameras.INDEX, c -> c.ofFrame(2, 0));
        for (int wrong : new int[] {-1, 9, Integer.MIN_VALUE, Integer.MAX_VALUE}) {
            Checks.refused(camera, "ofFrame what " + wrong, Cameras.ARGUMENT, c -> c.ofFrame(0, wrong));
        }
        for (int what = 0; what <= 8; what++) {
            int asked = what;
            Checks.keeps(camera, "ofFrame " + what, c -> c.ofFrame(0, asked));
        }
        Checks.same("clipped, by raw alone", Cameras.withHot(0, 0, 3, 4, 7, 7).ofFrame(0, 3), 3);
    }

    private static void sharp() {
        Checks.same("sharp, dark", Cameras.withHot().ofFrame(0, 5), 0);
        Checks.same("sharp, a pair's first", Cameras.withHot(1, 0).ofFrame(0, 5), 255);
        Checks.same("sharp, first column", Cameras.withHot(0, 1).ofFrame(0, 5), 255);
        Checks.same("sharp, in two pairs", Cameras.withHot(3, 2).ofFrame(0, 5), 510);
        Checks.same("sharp, last column", Cameras.withHot(7, 2).ofFrame(0, 5), 255);
        Checks.same("sharp, last row", Cameras.withHot(2, 7).ofFrame(0, 5), 255);
        Checks.same("sharp, in no pair", Cameras.withHot(7, 0, 0, 7).ofFrame(0, 5), 0);
        Checks.same("sharp, red", Cameras.withHot(2, 2).ofFrame(0, 5), 0);
        Checks.same("sharp, blue", Cameras.withHot(3, 3).ofFrame(0, 5), 0);
        Checks.same("sharp, both the same", Cameras.withHot(5, 6, 6, 7).ofFrame(0, 5), 255);
    }

    private static void white() {
        Camera camera = new Camera();
        Cameras.takeColours(camera, true, true, true);
        Cameras.takeColours(camera, false, true, true);
        Cameras.takeColours(camera, true, false, true);
        Cameras.takeColours(camera, true, true, false);
        Cameras.takeHot(camera, 0, 0, 1, 0, 3, 0, 5, 0, 7, 0, 0, 1, 1, 1, 3, 1);
        int[][] due = {{4, 4}, {16, 4}, {1, 1}, {4, 16}, {10, 5}};
        for (int frame = 0; frame < due.length; frame++) {
            Checks.same("white of red " + frame, camera.ofFrame(frame, 6), due[frame][0]);
            Checks.same("white of blue " + frame, camera.ofFrame(frame, 7), due[frame][1]);
        }
        // Three greens by two reds: 12 / 4; by four: 12 / 8 is 1; nine by one: 36 / 2 is above 16.
        Checks.same("white 3", Cameras.withHot(1, 0, 3, 0, 5, 0, 0, 0, 2, 0).ofFrame(0, 6), 3);
        Checks.same("white, whole", Cameras.withHot(1, 0, 3, 0, 5, 0, 0, 0, 2, 0, 4, 0, 6, 0).ofFrame(0, 6), 1);
        Checks.same("white, most",
            Cameras.withHot(1, 0, 3, 0, 5, 0, 7, 0, 0, 1, 2, 1, 4, 1, 6, 1, 1, 2, 0, 0).ofFrame(0, 6), 16);
        Checks.same("white of nothing", Cameras.withHot().ofFrame(0, 7), 16);
    }

    private static void ofEdit() {
        Camera camera = new Camera();
        Checks.refused(camera, "ofEdit of none", Cameras.INDEX, c -> c.ofEdit(0, 0, 2));
        camera.take(1, 1);
        Checks.refused(camera, "ofEdit without edits", Cameras.INDEX, c -> c.ofEdit(0, 0, 2));
        camera.edit(0, 0, 33);
        camera.edit(0, 2, 5);
        Checks.same("kind of the first", camera.ofEdit(0, 0, 0), 0);
        Checks.same("number of the first", camera.ofEdit(0, 0, 1), 33);
        Checks.same("kind of the second", camera.ofEdit(0, 1, 0), 2);
        Checks.same("number of the second", camera.ofEdit(0, 1, 1), 5);
        for (int wrong : FAR) {
            Checks.refused(camera, "ofEdit frame", Cameras.INDEX, c -> c.ofEdit(wrong, 0, 2));
            Checks.refused(camera, "ofEdit edit", Cameras.INDEX, c -> c.ofEdit(0, wrong, 2));
            Checks.refused(camera, "ofEdit what", Cameras.ARGUMENT, c -> c.ofEdit(0, 0, wrong));
        }
        Checks.refused(camera, "ofEdit frame 1", Cameras.INDEX, c -> c.ofEdit(1, 0, 0));
        Checks.refused(camera, "ofEdit edit 2", Cameras.INDEX, c -> c.ofEdit(0, 2, 0));
        Checks.refused(camera, "ofEdit what 2", Cameras.ARGUMENT, c -> c.ofEdit(0, 1, 2));
        Checks.keeps(camera, "ofEdit", c -> c.ofEdit(0, 1, 1));
        camera.undo(0);
        Checks.refused(camera, "ofEdit, taken back", Cameras.INDEX, c -> c.ofEdit(0, 1, 0));
    }

    private static void zoneAndMeter() {
        // One green in zone 0, two in 1, four in 2, none in 3; and others that do not count.
        Camera camera = Cameras.withHot(3, 2, 4, 1, 7, 0, 0, 5, 3, 4, 1, 6, 2, 7, 0, 0, 4, 4, 7, 7, 3, 3);
        double[] due = {31.875, 63.75, 127.5, 0.0};
        for (int zone = 0; zone < 4; zone++) {
            Checks.same("zone " + zone, camera.zone(0, zone), due[zone]);
        }
        Checks.same("meter", camera.meter(0), 55.78125);
        camera.edit(0, 3, 2);
        Checks.same("meter, by raw alone", camera.meter(0), 55.78125);
        Camera last = Cameras.withHot(4, 5);
        Checks.same("zone 3", last.zone(0, 3), 31.875);
        Checks.same("meter of zone 3", last.meter(0), 7.96875);
        Camera bright = new Camera();
        Cameras.takeColours(bright, true, true, true);
        Checks.same("meter, most", bright.meter(0), 255.0);
        Checks.keeps(bright, "zone", c -> c.zone(0, 0));
        Checks.keeps(bright, "meter", c -> c.meter(0));
    }

    private static void zoneRefused() {
        Camera camera = new Camera();
        Checks.refused(camera, "zone of none", Cameras.INDEX, c -> c.zone(0, 0));
        Checks.refused(camera, "meter of none", Cameras.INDEX, c -> c.meter(0));
        camera.take(1, 1);
        for (int wrong : FAR) {
            Checks.refused(camera, "zone frame", Cameras.INDEX, c -> c.zone(wrong, 0));
            Checks.refused(camera, "zone zone", Cameras.INDEX, c -> c.zone(0, wrong));
            Checks.refused(camera, "meter frame", Cameras.INDEX, c -> c.meter(wrong));
        }
        Checks.refused(camera, "zone frame 1", Cameras.INDEX, c -> c.zone(1, 0));
        Checks.refused(camera, "zone 4", Cameras.INDEX, c -> c.zone(0, 4));
        Checks.refused(camera, "meter frame 1", Cameras.INDEX, c -> c.meter(1));
    }

    private static void ofFile() {
        Camera camera = Cameras.withHot(2, 2);
        Checks.refused(camera, "ofFile of none", Cameras.INDEX, c -> c.ofFile(0, 4));
        Cameras.takeHot(camera, 4, 4);
        camera.edit(1, 5, 0);
        camera.edit(1, 4, 0);
        camera.save(1);
        camera.save(0);
        camera.save(1);
        int[][] due = {{1, 1, 2}, {0, 1, 0}, {1, 2, 2}};
        for (int file = 0; file < due.length; file++) {
            for (int what = 0; what <= 2; what++) {
                Checks.same("ofFile " + file + " " + what, camera.ofFile(file, what), due[file][what]);
            }
        }
        int before = camera.word(1);
        Checks.same("word as saved", camera.ofFile(0, 3), before);
        camera.undo(1);
        Checks.same("word as saved, then", camera.ofFile(0, 3), before);
        camera.edit(1, 4, 0);
        camera.map(4, 4, true);
        Checks.same("what is mapped now changes it", camera.ofFile(0, 3) != before, true);
        Checks.same("just as the frame's", camera.ofFile(0, 3), camera.word(1));
        Checks.same("not without a mend", camera.ofFile(1, 3), camera.word(0));
        for (int wrong : FAR) {
            Checks.refused(camera, "ofFile file", Cameras.INDEX, c -> c.ofFile(wrong, 4));
            Checks.refused(camera, "ofFile what", Cameras.ARGUMENT, c -> c.ofFile(0, wrong));
        }
        Checks.refused(camera, "ofFile file 3", Cameras.INDEX, c -> c.ofFile(3, 0));
        Checks.refused(camera, "ofFile what 4", Cameras.ARGUMENT, c -> c.ofFile(2, 4));
        Checks.keeps(camera, "ofFile", c -> c.ofFile(0, 3));
    }

    private static void ofPlace() {
        Camera camera = new Camera();
        camera.paint(5, 2, 5, 2, 1 + 256 * 2 + 65536 * 255);
        camera.spoil(5, 2, 2);
        camera.map(5, 2, true);
        int[] due = {1, 2, 255, 1, 2, 1};
        for (int what = 0; what <= 5; what++) {
            int asked = what;
            Checks.same("ofPlace " + what, camera.ofPlace(5, 2, what), due[what]);
            Checks.same("ofPlace, turned, " + what, camera.ofPlace(2, 5, what), what == 3 ? 1 : 0);
            Checks.keeps(camera, "ofPlace " + what, c -> c.ofPlace(5, 2, asked));
        }
        for (int place = 0; place < 64; place++) {
            int x = place % 8;
            int y = place / 8;
            Checks.same("colour seen at " + x + " " + y, camera.ofPlace(x, y, 3), x % 2 + y % 2);
        }
        for (int wrong : new int[] {-1, 8, Integer.MIN_VALUE, Integer.MAX_VALUE}) {
            Checks.refused(camera, "ofPlace x", Cameras.INDEX, c -> c.ofPlace(wrong, 0, 6));
            Checks.refused(camera, "ofPlace y", Cameras.INDEX, c -> c.ofPlace(0, wrong, 0));
        }
        for (int wrong : FAR) {
            Checks.refused(camera, "ofPlace what", Cameras.ARGUMENT, c -> c.ofPlace(0, 0, wrong));
        }
    }

    private static void many() {
        Camera camera = new Camera();
        camera.spoil(0, 0, 1);
        camera.spoil(1, 0, 2);
        camera.spoil(2, 0, 2);
        camera.map(2, 0, true);
        camera.map(3, 0, true);
        camera.map(4, 0, true);
        camera.map(5, 0, true);
        camera.take(1, 1);
        camera.take(1, 1);
        camera.edit(0, 4, 0);
        camera.edit(1, 4, 0);
        camera.edit(1, 5, 0);
        camera.save(0);
        // 128 draws are eight beyond two rounds of 60.
        int[] due = {2, 1, 4, 55, 3, 3, 2};
        for (int what = 0; what <= 6; what++) {
            int asked = what;
            Checks.same("many " + what, camera.many(what), due[what]);
            Checks.keeps(camera, "many " + what, c -> c.many(asked));
        }
        for (int wrong : new int[] {-1, 7, Integer.MIN_VALUE, Integer.MAX_VALUE}) {
            Checks.refused(camera, "many " + wrong, Cameras.ARGUMENT, c -> c.many(wrong));
        }
    }

    private static void apart() {
        Camera camera = Cameras.withHot();
        Checks.same("apart, the same", camera.apart(0, 0), 0.0);
        Cameras.takeHot(camera, 7, 7);
        Checks.same("apart", camera.apart(0, 1), 255.0);
        Checks.same("apart, turned", camera.apart(1, 0), 255.0);
        camera.edit(1, 3, 0);
        Checks.same("apart behind an edit", camera.apart(0, 1), 127.5);
        camera.edit(0, 3, 2);
        Checks.same("apart behind another", camera.apart(0, 1), 255.0);
        camera.edit(0, 3, 1);
        Checks.same("apart within the bounds", camera.apart(1, 0), 255.0);
        // A frame of 127 at (1, 0): a third of it beside, and the greatest where it is.
        Camera third = Cameras.withHot(1, 0);
        Cameras.takeHot(third);
        third.merge(3, 255);
        Checks.same("apart of a merged one", third.apart(1, 2), 127.0);
        third.edit(2, 0, 64);
        third.edit(2, 0, 13);
        Checks.same("apart of a black one", third.apart(2, 1), 50.0);
        Camera first = Cameras.withHot(0, 0);
        Cameras.takeHot(first);
        Checks.same("apart in the first number", first.apart(0, 1), 255.0);
        for (int k = 0; k < 4; k++) {
            first.edit(0, 1, 1);
        }
        Checks.same("apart by less than 1", first.apart(0, 1), 0.99609375);
        Checks.same("apart by less than 1, turned", first.apart(1, 0), 0.99609375);
        for (int wrong : FAR) {
            Checks.refused(camera, "apart one", Cameras.INDEX, c -> c.apart(wrong, 0));
            Checks.refused(camera, "apart other", Cameras.INDEX, c -> c.apart(0, wrong));
        }
        Checks.refused(camera, "apart 2", Cameras.INDEX, c -> c.apart(0, 2));
        Checks.refused(camera, "apart 2, turned", Cameras.INDEX, c -> c.apart(2, 0));
        Camera none = new Camera();
        Checks.refused(none, "apart of none", Cameras.INDEX, c -> c.apart(0, 0));
        Checks.keeps(camera, "apart", c -> c.apart(0, 1));
    }
}
