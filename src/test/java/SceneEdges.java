/** Section 1 of the document, and its terms: sentence by sentence. */
final class SceneEdges {
    private static final String AT = "1. Scene and sensor";

    private SceneEdges() {
    }

    static void tell(Document document) {
        document.says("What it is", "An object is used for at most 512 calls after it has been made", SceneEdges::calls);
        document.says("Terms", "Whole numbers are divided rounding down.", SceneEdges::roundingDown);
        document.says("Terms", "Where float or double is told, numbers are reckoned in that", SceneEdges::inFloat);
        document.says("Terms", "just in the order that is told (as Java does)", SceneEdges::inOrder);
        document.says("Terms", "NONE is -1.", SceneEdges::none);
        document.says(AT, "There are 8 by 8 PLACES (x, y), each x and y of 0 to 7.", SceneEdges::places);
        document.says(AT, "The SCENE has in each a RED, a GREEN and a BLUE (0 to 255", SceneEdges::shades);
        document.says(AT, "0 at first).", SceneEdges::darkAtFirst);
        document.says(AT, "The LAMP has a FACTOR (float) for each of these", SceneEdges::factorOfEach);
        document.says(AT, "told in quarters (1 to 16)", SceneEdges::quarters);
        document.says(AT, "1f at first", SceneEdges::lampAtFirst);
        document.says(AT, "The SENSOR sees one COLOUR in each PLACE", SceneEdges::oneColour);
        document.says(AT, "0 RED, if x and y are even", () -> seen(0));
        document.says(AT, "2 BLUE, if both are odd", () -> seen(2));
        document.says(AT, "1 GREEN otherwise.", () -> seen(1));
        document.says(AT, "A PLACE can be GOOD (at first), DEAD or HOT.", SceneEdges::goodAtFirst);
        document.says(AT, "MAPPED are those of which the camera knows that they are not GOOD (told by hand", SceneEdges::byHand);
        document.says(AT, "it may be wrong)", SceneEdges::mappedWrongly);
        document.says(AT, "A FRAME is taken with a TIME (1 to 64)", SceneEdges::times);
        document.says(AT, "and a GAIN (1 to 8)", SceneEdges::gains);
        document.says(AT, "PLACE by PLACE, y by y and in it x by x", SceneEdges::placeByPlace);
        document.says(AT, "the DRAW becomes (2 * DRAW + 5) modulo 61", SceneEdges::drawWraps);
        document.says(AT, "(0 at first", SceneEdges::drawAtFirst);
        document.says(AT, "one for all FRAMES)", SceneEdges::drawOfAll);
        document.says(AT, "LIGHT (float) is (float) (the SCENE's COLOUR there) * its FACTOR * TIME / 16f (from the left on)",
            SceneEdges::light);
        document.says(AT, "WELL is LIGHT made whole (cut)", SceneEdges::wellIsCut);
        document.says(AT, "255 at most", SceneEdges::wellAtMost);
        document.says(AT, "RAW is 16 + WELL * GAIN + (DRAW modulo 8) - 4", SceneEdges::rawOfTheDark);
        document.says(AT, "of 0 to 255 (less is 0, more 255)", SceneEdges::rawAtMost);
        document.says(AT, "Of a DEAD one RAW is 0", SceneEdges::dead);
        document.says(AT, "of a HOT one 255", SceneEdges::hot);
        document.says(AT, "(with a DRAW, too)", SceneEdges::brokenWithADraw);
        document.says(AT, "FRAMES: at most 6, numbered from 0", SceneEdges::sixFrames);
        document.says(AT, "RAW of a FRAME never changes.", SceneEdges::rawStays);
        document.says(AT, "A PLACE is CLIPPED, if its RAW is 255.", SceneEdges::clipped);
    }

    private static void calls() {
        Camera camera = Cameras.crowded();
        long due = camera.copy().digest();
        while (camera.calls() < Camera.MOST_CALLS - 2) {
            Checks.outcome(() -> camera.take(1, 1));
        }
        Checks.same("call 511, refused", Checks.outcome(() -> camera.save(0)), Cameras.STATE);
        Checks.same("call 512", camera.digest(), due);
    }

    private static void roundingDown() {
        Camera camera = Cameras.withRaw(0, 0, 20, 2, 0, 30, 4, 0, 30, 6, 0, 30);
        Cameras.takeRaw(camera, 0, 0, 21, 2, 0, 32, 4, 0, 33, 6, 0, 29);
        camera.merge(3, 255);
        int[] due = {20, 31, 31, 29};
        for (int k = 0; k < due.length; k++) {
            Checks.same("a half of a sum, " + k, camera.raw(2, 2 * k, 0), due[k]);
        }
        Checks.same("zone 1 by y / 4", Cameras.withHot(7, 2).zone(0, 1), 31.875);
        // 2 * 3 / 4.
        Checks.same("white", Cameras.withHot(1, 0, 3, 0, 5, 0, 0, 0, 2, 0, 4, 0, 6, 0).ofFrame(0, 6), 1);
    }

    private static void inFloat() {
        Camera camera = Cameras.withRaw(1, 0, 127);
        Checks.same("a third is float", camera.picture(0, 2, 0, 1), (double) (127f / 3f));
        Checks.same("a third is no double", camera.picture(0, 2, 0, 1) == 127.0 / 3.0, false);
        camera.edit(0, 3, 2);
        Checks.same("255f less it is float", camera.picture(0, 2, 0, 1), (double) (255f - 127f / 3f));
        Checks.same("255f less it is no double", camera.picture(0, 2, 0, 1) == 255.0 - 127f / 3f, false);
    }

    private static void inOrder() {
        Camera camera = Cameras.withRaw(1, 0, 127);
        camera.edit(0, 3, 2);
        camera.edit(0, 3, 2);
        float third = 127f / 3f;
        Checks.same("255f less it, twice", camera.picture(0, 2, 0, 1), (double) (255f - (255f - third)));
        Checks.same("is not just as before", camera.picture(0, 2, 0, 1) == third, false);
    }

    private static void none() {
        Camera camera = new Camera();
        camera.take(1, 1);
        Checks.same("NONE", camera.undo(0), -1);
    }

    private static void places() {
        Camera painted = new Camera();
        for (int place = 0; place < 64; place++) {
            painted.paint(place % 8, place / 8, place % 8, place / 8, 3 + place);
        }
        for (int place = 0; place < 64; place++) {
            Checks.same("painted place " + place, painted.ofPlace(place % 8, place / 8, 0), 3 + place);
        }
        Camera broken = new Camera();
        for (int place = 0; place < 64; place++) {
            Checks.same("spoil place " + place, broken.spoil(place % 8, place / 8, 1 + place % 2), 0);
            Checks.same("map place " + place, broken.map(place % 8, place / 8, true), place + 1);
        }
        Checks.same("64 broken", broken.many(5), 64);
        for (int place = 0; place < 64; place++) {
            Checks.same("broken place " + place, broken.ofPlace(place % 8, place / 8, 4), 1 + place % 2);
        }
        Camera camera = Cameras.rich();
        Checks.places(camera, "raw", (c, x, y) -> c.raw(0, x, y));
        Checks.places(camera, "ofPlace", (c, x, y) -> c.ofPlace(x, y, 0));
    }

    private static void shades() {
        Camera camera = new Camera();
        int[][] due = {{0, 0, 0, 0}, {1, 1, 0, 0}, {255, 255, 0, 0}, {256, 0, 1, 0}, {65280, 0, 255, 0},
            {65535, 255, 255, 0}, {65536, 0, 0, 1}, {16711680, 0, 0, 255}, {16776960, 0, 255, 255},
            {16777215, 255, 255, 255}};
        for (int[] d : due) {
            camera.paint(3, 3, 3, 3, d[0]);
            for (int colour = 0; colour < 3; colour++) {
                Checks.same("colour " + colour + " of " + d[0], camera.ofPlace(3, 3, colour), d[1 + colour]);
            }
        }
    }

    private static void darkAtFirst() {
        Camera camera = new Camera();
        for (int k = 0; k < 192; k++) {
            Checks.same("colour at first, " + k, camera.ofPlace(k / 3 % 8, k / 24, k % 3), 0);
        }
    }

    private static void factorOfEach() {
        int[] places = {0, 1, 9};
        for (int colour = 0; colour < 3; colour++) {
            for (int quarters = 1; quarters <= 16; quarters++) {
                int[] lamp = {4, 4, 4};
                lamp[colour] = quarters;
                Camera camera = new Camera();
                camera.paint(0, 0, 7, 7, 41 * (1 + 256 + 65536));
                camera.lamp(lamp[0], lamp[1], lamp[2]);
                camera.take(16, 1);
                for (int k = 0; k < 3; k++) {
                    int due = 12 + Cameras.drawBehind(places[k] + 1) % 8 + (int) (41f * (lamp[k] / 4f));
                    Checks.same("colour " + k + ", factor " + quarters + " of " + colour,
                        camera.raw(0, places[k] % 8, places[k] / 8), due);
                }
            }
        }
    }

    private static void quarters() {
        Camera camera = new Camera();
        camera.paint(0, 0, 7, 7, 40 * (1 + 256 + 65536));
        camera.lamp(1, 16, 4);
        camera.take(16, 1);
        camera.lamp(16, 1, 16);
        camera.take(16, 1);
        camera.lamp(15, 3, 1);
        camera.take(16, 1);
        // A red, a green and a blue place of each frame, and what light they have.
        int[][] due = {{10, 160, 40}, {160, 10, 160}, {150, 30, 10}};
        int[] place = {0, 1, 9};
        for (int frame = 0; frame < due.length; frame++) {
            for (int colour = 0; colour < 3; colour++) {
                int draw = Cameras.drawBehind(64 * frame + place[colour] + 1) % 8;
                Checks.same("frame " + frame + ", colour " + colour,
                    camera.raw(frame, place[colour] % 8, place[colour] / 8), 12 + due[frame][colour] + draw);
            }
        }
    }

    private static void lampAtFirst() {
        Camera camera = new Camera();
        camera.paint(0, 0, 7, 7, Cameras.GREY_100);
        camera.take(16, 1);
        Checks.same("red at first", camera.raw(0, 0, 0), 112 + 5);
        Checks.same("green at first", camera.raw(0, 1, 0), 112 + 7);
        Checks.same("blue at first", camera.raw(0, 1, 1), 112 + 4);
        Checks.same("quarters at first", camera.lamp(4, 4, 4), 4);
    }

    private static void oneColour() {
        for (int dark = 0; dark < 3; dark++) {
            Camera camera = new Camera();
            camera.paint(0, 0, 7, 7, 200 * (1 + 256 + 65536) - (200 << 8 * dark));
            camera.take(16, 1);
            for (int place = 0; place < 64; place++) {
                int x = place % 8;
                int y = place / 8;
                int light = camera.raw(0, x, y) - 12 - Cameras.drawBehind(place + 1) % 8;
                Checks.same("without " + dark + ", light at " + place, light, x % 2 + y % 2 == dark ? 0 : 200);
            }
        }
    }

    private static void seen(int colour) {
        Camera camera = new Camera();
        camera.paint(0, 0, 7, 7, 200 << 8 * colour);
        camera.take(16, 1);
        for (int place = 0; place < 64; place++) {
            int x = place % 8;
            int y = place / 8;
            boolean isEven = x % 2 == 0 && y % 2 == 0;
            boolean isOdd = x % 2 == 1 && y % 2 == 1;
            boolean isSeen = colour == 0 ? isEven : colour == 2 ? isOdd : !isEven && !isOdd;
            Checks.same("seen at " + x + " " + y, camera.ofPlace(x, y, 3) == colour, isSeen);
            int draw = Cameras.drawBehind(place + 1) % 8;
            Checks.same("light at " + x + " " + y, camera.raw(0, x, y), 12 + (isSeen ? 200 : 0) + draw);
        }
    }

    private static void goodAtFirst() {
        Camera camera = new Camera();
        for (int place = 0; place < 64; place++) {
            Checks.same("at first " + place, camera.ofPlace(place % 8, place / 8, 4), 0);
        }
        for (int how : new int[] {1, 2, 0, 2, 1, 0}) {
            camera.spoil(7, 7, how);
            Checks.same("then", camera.ofPlace(7, 7, 4), how);
            Checks.same("how many are not good", camera.many(5), how == 0 ? 0 : 1);
        }
    }

    private static void byHand() {
        Camera camera = new Camera();
        camera.spoil(3, 3, 2);
        camera.spoil(4, 4, 1);
        camera.take(16, 1);
        Checks.same("not mapped by breaking", camera.many(2), 0);
        Checks.same("not known", camera.many(6), 2);
        camera.map(3, 3, true);
        camera.map(4, 4, true);
        Checks.same("known", camera.many(6), 0);
        camera.spoil(3, 3, 0);
        Checks.same("mapped until told otherwise", camera.ofPlace(3, 3, 5), 1);
    }

    private static void mappedWrongly() {
        Camera camera = new Camera();
        camera.map(5, 5, true);
        Checks.same("not broken by a map", camera.ofPlace(5, 5, 4), 0);
        Checks.same("none is broken", camera.many(5), 0);
        Checks.same("mapped all the same", camera.many(2), 1);
        camera.take(16, 1);
        Checks.same("a good one's raw", camera.raw(0, 5, 5), 12 + Cameras.drawBehind(46) % 8);
    }

    private static void times() {
        Camera camera = new Camera();
        camera.paint(0, 0, 0, 0, 255);
        Checks.range(camera, "time", 1, 64, Cameras.ARGUMENT, (c, v) -> c.take(v, 1));
        camera.take(1, 1);
        Checks.same("the least, 255 / 16", camera.raw(0, 0, 0), 17 + 15);
        camera.paint(0, 0, 0, 0, 10);
        camera.take(64, 1);
        Checks.same("the greatest, 10 * 4", camera.raw(1, 0, 0), 12 + Cameras.drawBehind(65) % 8 + 40);
        Checks.same("the least is told", camera.ofFrame(0, 0), 1);
        Checks.same("the greatest is told", camera.ofFrame(1, 0), 64);
    }

    private static void gains() {
        Camera camera = new Camera();
        camera.paint(0, 0, 0, 0, 10);
        Checks.range(camera, "gain", 1, 8, Cameras.ARGUMENT, (c, v) -> c.take(16, v));
        camera.take(16, 1);
        camera.take(16, 8);
        Checks.same("the least, 10", camera.raw(0, 0, 0), 17 + 10);
        Checks.same("the greatest, 10 * 8", camera.raw(1, 0, 0), 12 + Cameras.drawBehind(65) % 8 + 80);
        Checks.same("the least is told", camera.ofFrame(0, 1), 1);
        Checks.same("the greatest is told", camera.ofFrame(1, 1), 8);
    }

    private static void placeByPlace() {
        Camera camera = new Camera();
        camera.take(1, 1);
        for (int place = 0; place < 64; place++) {
            Checks.same("draw of place " + place, camera.raw(0, place % 8, place / 8),
                12 + Cameras.drawBehind(place + 1) % 8);
        }
    }

    private static void drawWraps() {
        Camera camera = new Camera();
        camera.take(1, 1);
        // 14 is the first behind 61: 2 * 35 + 5 - 61. The 59th to the 61st are 28, 0 (of 61) and 5.
        int[][] due = {{2, 0, 35}, {3, 0, 14}, {2, 7, 28}, {3, 7, 0}, {4, 7, 5}};
        for (int[] d : due) {
            Checks.same("draw " + d[2], camera.raw(0, d[0], d[1]), 12 + d[2] % 8);
        }
    }

    private static void drawAtFirst() {
        Camera camera = new Camera();
        Checks.same("at first", camera.many(3), 0);
        camera.take(1, 1);
        Checks.same("the first place's", camera.raw(0, 0, 0), 12 + 5);
    }

    private static void drawOfAll() {
        Camera camera = new Camera();
        int[] due = {14, 55, 40, 44, 47, 34};
        for (int frame = 0; frame < 6; frame++) {
            camera.take(1 + frame, 1);
            Checks.same("behind frame " + frame, camera.many(3), due[frame]);
            Checks.same("its first place", camera.raw(frame, 0, 0), 12 + Cameras.drawBehind(64 * frame + 1) % 8);
        }
        Camera merging = new Camera();
        merging.take(1, 1);
        merging.take(1, 1);
        merging.merge(3, 255);
        Checks.same("a merge draws none", merging.many(3), 55);
        merging.wouldClip(16, 1);
        merging.bestTake(100);
        Checks.same("what would be draws none", merging.many(3), 55);
    }

    private static int rawOfRed(int colour, int quarters, int time, int gain) {
        Camera camera = new Camera();
        camera.paint(0, 0, 0, 0, colour);
        camera.lamp(quarters, 4, 4);
        camera.take(time, gain);
        // 17 is what the dark gives there.
        return camera.raw(0, 0, 0) - 17;
    }

    private static void light() {
        Checks.same("0", rawOfRed(0, 16, 64, 8), 0);
        Checks.same("1 * 0.25 * 64 / 16", rawOfRed(1, 1, 64, 1), 1);
        Checks.same("255 * 0.25 * 1 / 16 is 3.98", rawOfRed(255, 1, 1, 1), 3);
        Checks.same("255 * 4 * 1 / 16 is 63.75", rawOfRed(255, 16, 1, 1), 63);
        Checks.same("13 * 1.75 * 7 / 16 is 9.95", rawOfRed(13, 7, 7, 1), 9);
        Checks.same("3 * 4 * 16 / 16", rawOfRed(3, 16, 16, 1), 12);
    }

    private static void wellIsCut() {
        Checks.same("63 / 64", rawOfRed(1, 1, 63, 1), 0);
        Checks.same("63 / 64, eight times", rawOfRed(1, 1, 63, 8), 0);
        Checks.same("64 / 64, eight times", rawOfRed(1, 1, 64, 8), 8);
        Checks.same("127 / 64, eight times", rawOfRed(127, 1, 1, 8), 8);
        Checks.same("128 / 64, eight times", rawOfRed(128, 1, 1, 8), 16);
    }

    private static void wellAtMost() {
        Checks.same("255", rawOfRed(255, 4, 16, 1), 255 - 17);
        Checks.same("256", rawOfRed(64, 16, 16, 1), 255 - 17);
        Checks.same("4080", rawOfRed(255, 16, 64, 1), 255 - 17);
        Checks.same("4080, eight times", rawOfRed(255, 16, 64, 8), 255 - 17);
    }

    private static void rawOfTheDark() {
        Camera camera = new Camera();
        camera.take(64, 8);
        Checks.same("draw modulo 8 is 0", camera.raw(0, 3, 7), 12);
        Checks.same("draw modulo 8 is 7", camera.raw(0, 1, 0), 19);
        Checks.same("times the gain, and then the draw", rawOfRed(16, 4, 16, 3), 48);
    }

    private static void rawAtMost() {
        Checks.same("254", rawOfRed(237, 4, 16, 1), 254 - 17);
        Checks.same("255", rawOfRed(238, 4, 16, 1), 255 - 17);
        Checks.same("256", rawOfRed(239, 4, 16, 1), 255 - 17);
        Checks.same("17 + 29 * 8", rawOfRed(29, 4, 16, 8), 29 * 8);
        Checks.same("17 + 30 * 8", rawOfRed(30, 4, 16, 8), 255 - 17);
        Camera camera = new Camera();
        camera.paint(0, 0, 7, 7, 0xffffff);
        camera.lamp(16, 16, 16);
        camera.take(64, 8);
        for (int place = 0; place < 64; place++) {
            Checks.same("the brightest at " + place, camera.raw(0, place % 8, place / 8), 255);
        }
    }

    private static void dead() {
        Camera camera = new Camera();
        camera.paint(0, 0, 7, 7, 0xffffff);
        Cameras.spoilAll(camera, 1);
        camera.take(64, 8);
        for (int place = 0; place < 64; place++) {
            Checks.same("a bright dead one " + place, camera.raw(0, place % 8, place / 8), 0);
        }
    }

    private static void hot() {
        Camera camera = new Camera();
        Cameras.spoilAll(camera, 2);
        camera.take(1, 1);
        for (int place = 0; place < 64; place++) {
            Checks.same("a dark hot one " + place, camera.raw(0, place % 8, place / 8), 255);
        }
    }

    private static void brokenWithADraw() {
        for (int how = 1; how <= 2; how++) {
            Camera camera = new Camera();
            Cameras.spoilAll(camera, how);
            camera.spoil(7, 7, 0);
            camera.take(1, 1);
            Checks.same("behind 63 broken ones", camera.raw(0, 7, 7), 12 + 14 % 8);
            camera.spoil(7, 7, how);
            camera.take(1, 1);
            Checks.same("behind 64 broken ones", camera.many(3), 55);
        }
    }

    private static void sixFrames() {
        Camera camera = new Camera();
        Checks.same("none", camera.many(0), 0);
        for (int frame = 0; frame < 4; frame++) {
            Checks.same("taken", camera.take(1, 1), frame);
        }
        Checks.same("merged", camera.merge(3, 0), 4);
        Camera other = camera.copy();
        Checks.same("the sixth, taken", camera.take(1, 1), 5);
        Checks.same("the sixth, merged", other.merge(31, 0), 5);
        for (Camera full : new Camera[] {camera, other}) {
            Checks.same("six", full.many(0), 6);
            Checks.refused(full, "the seventh, taken", Cameras.STATE, c -> c.take(1, 1));
            Checks.refused(full, "the seventh, merged", Cameras.STATE, c -> c.merge(3, 0));
        }
    }

    private static void rawStays() {
        Camera camera = Cameras.rich();
        int[] before = new int[64];
        for (int place = 0; place < 64; place++) {
            before[place] = camera.raw(1, place % 8, place / 8);
        }
        camera.paint(0, 0, 7, 7, 0);
        camera.lamp(1, 1, 1);
        camera.spoil(3, 3, 2);
        camera.map(3, 3, true);
        camera.take(64, 8);
        camera.merge(7, 0);
        for (int kind = 0; kind < 5; kind++) {
            camera.edit(1, kind + 1, kind == 3 || kind == 4 ? 0 : 2);
        }
        camera.save(1);
        camera.word(1);
        camera.bestWhite(1, 1);
        camera.bestTake(9);
        camera.undo(1);
        for (int place = 0; place < 64; place++) {
            Checks.same("raw of " + place, camera.raw(1, place % 8, place / 8), before[place]);
        }
    }

    private static void clipped() {
        int[][] due = {{236, 0}, {237, 0}, {238, 1}, {239, 1}, {255, 1}};
        for (int[] d : due) {
            Camera camera = new Camera();
            camera.paint(0, 0, 0, 0, d[0]);
            Checks.same("would be clipped, " + d[0], camera.wouldClip(16, 1), d[1]);
            camera.take(16, 1);
            Checks.same("clipped, " + d[0], camera.ofFrame(0, 3), d[1]);
        }
        Checks.same("dead ones", Cameras.withHot().ofFrame(0, 3), 0);
        Checks.same("a hot one", Cameras.withHot(7, 7).ofFrame(0, 3), 1);
        Camera all = new Camera();
        Cameras.spoilAll(all, 2);
        all.take(1, 1);
        Checks.same("all hot", all.ofFrame(0, 3), 64);
    }
}
