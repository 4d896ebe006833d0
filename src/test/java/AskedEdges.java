/** Promises 11 to 21: sentence by sentence. */
final class AskedEdges {
    private static final Class<?> INDEX = Cameras.INDEX;
    private static final Class<?> ARGUMENT = Cameras.ARGUMENT;
    private static final String NO_FRAME = "Throws `IndexOutOfBoundsException` if there is no such FRAME";

    private AskedEdges() {
    }

    static void tell(Document document) {
        tellPictures(document);
        tellFrames(document);
        tellFiles(document);
    }

    private static void tellPictures(Document document) {
        String at = "Promise 11: raw";
        document.says(at, "Returns RAW there.", AskedEdges::raw);
        document.says(at, NO_FRAME, () -> Checks.frames("raw", (c, v) -> c.raw(v, 7, 7)));
        document.says(at, "or x or y not 0 to 7", () -> Checks.places(Cameras.rich(), "raw", (c, x, y) -> c.raw(2, x, y)));
        at = "Promise 12: picture";
        document.says(at, "- `colour`: 0 RED, 1 GREEN, 2 BLUE", AskedEdges::pictureColours);
        document.says(at, "Returns that of its PICTURE there, behind all EDITS, made double", AskedEdges::pictureBehindAll);
        document.says(at, NO_FRAME, () -> Checks.frames("picture", (c, v) -> c.picture(v, 7, 7, 2)));
        document.says(at, "or x or y not 0 to 7",
            () -> Checks.places(Cameras.rich(), "picture", (c, x, y) -> c.picture(2, x, y, 0)));
        document.says(at, "Throws `IllegalArgumentException` if colour is not 0 to 2",
            () -> Checks.range(Cameras.rich(), "colour", 0, 2, ARGUMENT, (c, v) -> c.picture(2, 7, 0, v)));
        at = "Promise 13: word";
        document.says(at, "it starts with 7", AskedEdges::wordStart);
        document.says(at, "and becomes w * 31 + TONE (which wraps around as a 32-bit integer)", AskedEdges::wordWraps);
        document.says(at, "y by y, x by x, for RED, GREEN and BLUE", AskedEdges::wordOrder);
        document.says(at, NO_FRAME, () -> Checks.frames("word", (c, v) -> c.word(v)));
    }

    private static void tellFrames(Document document) {
        String at = "Promise 14: ofFrame";
        document.says(at, "- `what`: 0 its TIME, 1 GAIN, 2 how many EDITS, 3 PLACES that are CLIPPED", AskedEdges::ofFrame);
        document.says(at, "4 GHOSTS (0 of one that was taken)", AskedEdges::ghostsOfTaken);
        document.says(at, "5 SHARP, 6 WHITE of RED, 7 WHITE of BLUE, 8 FILES of it", AskedEdges::ofFrameOther);
        document.says(at, NO_FRAME, AskedEdges::ofFrameFrames);
        document.says(at, "Throws `IllegalArgumentException` if what is not 0 to 8",
            () -> Checks.range(Cameras.rich(), "what", 0, 8, ARGUMENT, (c, v) -> c.ofFrame(2, v)));
        at = "Promise 15: ofEdit";
        document.says(at, "- `edit`: an EDIT, by its place, from 0 on", AskedEdges::ofEdit);
        document.says(at, "- `what`: 0 its KIND, 1 its number", AskedEdges::ofEditWhat);
        document.says(at, NO_FRAME, AskedEdges::ofEditFrames);
        document.says(at, "or EDIT of it", AskedEdges::ofEditEdits);
        document.says(at, "Throws `IllegalArgumentException` if what is not 0 or 1", AskedEdges::ofEditWhats);
        at = "Promise 16: zone";
        document.says(at, NO_FRAME, () -> Checks.frames("zone", (c, v) -> c.zone(v, 3)));
        document.says(at, "or zone is not 0 to 3",
            () -> Checks.range(Cameras.rich(), "zone", 0, 3, INDEX, (c, v) -> c.zone(2, v)));
        document.says("Promise 17: meter", NO_FRAME, () -> Checks.frames("meter", (c, v) -> c.meter(v)));
    }

    private static void tellFiles(Document document) {
        String at = "Promise 18: ofFile";
        document.says(at, "- `what`: 0 its FRAME, 1 VERSION, 2 how many EDITS", AskedEdges::ofFile);
        document.says(at, "3 word() of it as it was saved (with what is MAPPED now)", AskedEdges::ofFileWord);
        document.says(at, "Throws `IndexOutOfBoundsException` if there is no such FILE", AskedEdges::ofFileFiles);
        document.says(at, "Throws `IllegalArgumentException` if what is not 0 to 3",
            () -> Checks.range(Cameras.rich(), "what", 0, 3, ARGUMENT, (c, v) -> c.ofFile(2, v)));
        at = "Promise 19: ofPlace";
        document.says(at, "- `what`: 0 to 2 RED, GREEN and BLUE of the SCENE, 3 the COLOUR that the SENSOR sees,"
            + " 4 how the PLACE is", AskedEdges::ofPlace);
        document.says(at, "5 1 if it is MAPPED, otherwise 0", AskedEdges::ofPlaceMapped);
        document.says(at, "Throws `IndexOutOfBoundsException` if x or y is not 0 to 7",
            () -> Checks.places(Cameras.rich(), "ofPlace", (c, x, y) -> c.ofPlace(x, y, 5)));
        document.says(at, "Throws `IllegalArgumentException` if what is not 0 to 5",
            () -> Checks.range(Cameras.rich(), "what", 0, 5, ARGUMENT, (c, v) -> c.ofPlace(7, 7, v)));
        at = "Promise 20: many";
        document.says(at, "- `what`: 0 FRAMES, 1 FILES, 2 MAPPED PLACES, 3 the DRAW, 4 EDITS of all FRAMES", AskedEdges::many);
        document.says(at, "5 PLACES that are not GOOD, 6 of these those that are not MAPPED", AskedEdges::manyNotGood);
        document.says(at, "Throws `IllegalArgumentException` if what is not 0 to 6", AskedEdges::manyWhats);
        at = "Promise 21: apart";
        document.says(at, "- `other`: another one, or the same", AskedEdges::apartTheSame);
        document.says(at, "Returns the greatest difference", AskedEdges::apartGreatest);
        document.says(at, "without its sign", AskedEdges::apartWithoutSign);
        document.says(at, "of any of the three numbers of their PICTURES in any PLACE", AskedEdges::apartAnywhere);
        document.says(at, "(reckoned in float, then made double)", AskedEdges::apartInFloat);
        document.says(at, "Throws `IndexOutOfBoundsException` if there is no such FRAME, of both", AskedEdges::apartFrames);
    }

    private static void raw() {
        Camera camera = Cameras.withRaw(0, 0, 255, 7, 7, 18, 0, 7, 254, 7, 0, 19);
        Checks.same("the greatest", camera.raw(0, 0, 0), 255);
        Checks.same("the least, of a dead one", camera.raw(0, 1, 1), 0);
        Checks.same("the last place", camera.raw(0, 7, 7), 18);
        Checks.same("the last row", camera.raw(0, 0, 7), 254);
        Checks.same("the last column", camera.raw(0, 7, 0), 19);
    }

    private static void pictureColours() {
        int[][] own = {{0, 0}, {7, 0}, {7, 7}};
        for (int seen = 0; seen < 3; seen++) {
            Camera camera = Cameras.withHot(own[seen]);
            for (int colour = 0; colour < 3; colour++) {
                Checks.same("colour " + colour + " where " + seen + " is seen",
                    camera.picture(0, own[seen][0], own[seen][1], colour), colour == seen ? 255.0 : 0.0);
            }
        }
    }

    private static void pictureBehindAll() {
        Camera camera = Cameras.withHot(0, 0);
        double[] due = {255.0, 127.5, 63.75, 31.875, 15.9375, 7.96875, 3.984375};
        for (int k = 0; k <= 6; k++) {
            Checks.same("behind " + k, camera.picture(0, 0, 0, 0), due[k]);
            if (k < 6) {
                camera.edit(0, 3, 0);
            }
        }
        Checks.same("a third", Cameras.withRaw(1, 0, 20).picture(0, 2, 0, 1), (double) (20f / 3f));
    }

    private static int wordOf(int... tones) {
        int w = 7;
        for (int tone : tones) {
            w = w * 31 + tone;
        }
        return w;
    }

    private static void wordStart() {
        // 7 times 31, 192 times: in whole, and only then cut to 32 bits.
        java.math.BigInteger all = java.math.BigInteger.valueOf(31).pow(192).multiply(java.math.BigInteger.valueOf(7));
        Checks.same("all tones are 0", Cameras.withHot().word(0), all.intValue());
    }

    private static void wordWraps() {
        Camera camera = new Camera();
        Cameras.takeColours(camera, true, true, true);
        java.math.BigInteger w = java.math.BigInteger.valueOf(7);
        for (int k = 0; k < 192; k++) {
            w = w.multiply(java.math.BigInteger.valueOf(31)).add(java.math.BigInteger.valueOf(255));
        }
        Checks.same("all tones are 255", camera.word(0), w.intValue());
        int below = 0;
        int above = 0;
        for (int raw = 20; raw < 60; raw++) {
            int word = Cameras.withRaw(0, 0, raw).word(0);
            below += word < 0 ? 1 : 0;
            above += word > 0 ? 1 : 0;
        }
        Checks.same("some are below 0, some above", below > 0 && above > 0, true);
    }

    private static void wordOrder() {
        int[] tones = new int[192];
        // Red (0, 0) and its neighbours; blue (7, 7) and its; all by hand.
        tones[0] = 200;
        tones[3] = 100;
        tones[24] = 100;
        tones[27] = 50;
        tones[191] = 30;
        tones[188] = 15;
        tones[167] = 15;
        tones[164] = 7;
        Checks.same("first and last", Cameras.withRaw(0, 0, 200, 7, 7, 30).word(0), wordOf(tones));
        int[] green = new int[192];
        // Green (7, 0): (6, 0) of three, (7, 1) of three, (6, 1) of four.
        green[3 * 7 + 1] = 99;
        green[3 * 6 + 1] = 33;
        green[3 * 15 + 1] = 33;
        Checks.same("a row's last", Cameras.withRaw(7, 0, 99).word(0) - wordOf(green), 0);
    }

    private static void ofFrame() {
        Camera camera = new Camera();
        camera.take(64, 8);
        camera.spoil(0, 0, 2);
        camera.take(1, 1);
        Checks.same("the greatest time", camera.ofFrame(0, 0), 64);
        Checks.same("the greatest gain", camera.ofFrame(0, 1), 8);
        Checks.same("the least time", camera.ofFrame(1, 0), 1);
        Checks.same("the least gain", camera.ofFrame(1, 1), 1);
        Checks.same("nothing clipped", camera.ofFrame(0, 3), 0);
        Checks.same("one clipped", camera.ofFrame(1, 3), 1);
        for (int k = 0; k <= 6; k++) {
            Checks.same("edits", camera.ofFrame(1, 2), k);
            Checks.outcome(() -> camera.edit(1, 4, 0));
        }
        Checks.same("edits, six at most", camera.ofFrame(1, 2), 6);
        Checks.same("edits of the other", camera.ofFrame(0, 2), 0);
    }

    private static void ghostsOfTaken() {
        Camera camera = Cameras.withHot(0, 0);
        Cameras.takeHot(camera);
        camera.merge(3, 0);
        camera.take(1, 1);
        Checks.same("the first", camera.ofFrame(0, 4), 0);
        Checks.same("the second", camera.ofFrame(1, 4), 0);
        Checks.same("the merged one", camera.ofFrame(2, 4), 1);
        Checks.same("one that was taken behind it", camera.ofFrame(3, 4), 0);
    }

    private static void ofFrameOther() {
        Camera camera = Cameras.withHot(1, 0, 0, 0, 2, 0, 1, 1);
        Checks.same("sharp", camera.ofFrame(0, 5), 255);
        Checks.same("white of red, 4 / 4", camera.ofFrame(0, 6), 1);
        Checks.same("white of blue, 4 / 2", camera.ofFrame(0, 7), 2);
        Cameras.takeHot(camera);
        Checks.same("sharp of a dead one", camera.ofFrame(1, 5), 0);
        Checks.same("white of red of a dead one", camera.ofFrame(1, 6), 16);
        Checks.same("white of blue of a dead one", camera.ofFrame(1, 7), 16);
        for (int k = 0; k < 6; k++) {
            Checks.same("files", camera.ofFrame(0, 8), k);
            camera.save(0);
        }
        Checks.same("six files", camera.ofFrame(0, 8), 6);
        Checks.same("no files of the other", camera.ofFrame(1, 8), 0);
    }

    private static void ofFrameFrames() {
        for (int what : new int[] {0, 8}) {
            Checks.frames("ofFrame " + what, (c, v) -> c.ofFrame(v, what));
        }
    }

    private static void ofEdit() {
        Camera camera = new Camera();
        camera.take(1, 1);
        for (int k = 0; k < 6; k++) {
            camera.edit(0, 0, 60 - k);
            Checks.same("the first, of " + (k + 1), camera.ofEdit(0, 0, 1), 60);
            Checks.same("the last, of " + (k + 1), camera.ofEdit(0, k, 1), 60 - k);
        }
    }

    private static void ofEditWhat() {
        Camera camera = new Camera();
        camera.take(1, 1);
        int[][] told = {{0, 64}, {1, 16}, {2, 1}, {3, 2}, {4, 0}, {5, 0}};
        for (int k = 0; k < 6; k++) {
            camera.edit(0, told[k][0], told[k][1]);
            Checks.same("kind", camera.ofEdit(0, k, 0), told[k][0]);
            Checks.same("number", camera.ofEdit(0, k, 1), told[k][1]);
        }
    }

    private static void ofEditFrames() {
        Camera camera = Cameras.rich();
        Checks.range(camera, "frame", 0, 2, INDEX, (c, v) -> c.ofEdit(v, 0, 1));
        Checks.range(Cameras.crowded(), "frame of six", 0, 5, INDEX, (c, v) -> c.ofEdit(v, 5, 1));
        Checks.refused(new Camera(), "frame of none", INDEX, c -> c.ofEdit(0, 0, 0));
    }

    private static void ofEditEdits() {
        Camera camera = new Camera();
        camera.take(1, 1);
        camera.take(1, 1);
        for (int k = 0; k < 6; k++) {
            camera.edit(1, 4, 0);
        }
        Checks.refused(camera, "the first of none", INDEX, c -> c.ofEdit(0, 0, 0));
        Checks.refused(camera, "-1 of none", INDEX, c -> c.ofEdit(0, -1, 0));
        for (int k = 1; k <= 6; k++) {
            camera.edit(0, 3, 0);
            Checks.range(camera, "edit of " + k, 0, k - 1, INDEX, (c, v) -> c.ofEdit(0, v, 0));
        }
        camera.undo(0);
        Checks.refused(camera, "taken back", INDEX, c -> c.ofEdit(0, 5, 0));
    }

    private static void ofEditWhats() {
        Checks.range(Cameras.rich(), "what", 0, 1, ARGUMENT, (c, v) -> c.ofEdit(0, 1, v));
    }

    private static void ofFile() {
        Camera camera = new Camera();
        for (int frame = 0; frame < 6; frame++) {
            camera.take(1, 1);
        }
        int[][] due = {{5, 1, 0}, {0, 1, 1}, {5, 2, 1}, {0, 2, 2}, {0, 3, 3}, {5, 3, 2}};
        for (int file = 0; file < 6; file++) {
            camera.save(due[file][0]);
            camera.edit(0, 4, 0);
            if (file % 2 == 0) {
                camera.edit(5, 4, 0);
            }
            if (file == 2) {
                camera.undo(0);
            }
        }
        for (int file = 0; file < 6; file++) {
            Checks.same("frame of " + file, camera.ofFile(file, 0), due[file][0]);
            Checks.same("version of " + file, camera.ofFile(file, 1), due[file][1]);
        }
        int[] edits = {0, 1, 1, 2, 3, 3};
        for (int file = 0; file < 6; file++) {
            Checks.same("edits of " + file, camera.ofFile(file, 2), edits[file]);
        }
    }

    private static void ofFileWord() {
        Camera camera = Cameras.withHot(2, 2);
        int bare = camera.word(0);
        camera.edit(0, 5, 0);
        camera.save(0);
        camera.undo(0);
        camera.save(0);
        Checks.same("a mend, nothing mapped", camera.ofFile(0, 3), bare);
        camera.map(2, 2, true);
        Checks.same("a mend, mapped now", camera.ofFile(0, 3), Cameras.withHot().word(0));
        Checks.same("no mend, mapped now", camera.ofFile(1, 3), bare);
        camera.map(2, 2, false);
        Checks.same("a mend, not mapped any more", camera.ofFile(0, 3), bare);
    }

    private static void ofFileFiles() {
        Camera camera = new Camera();
        Checks.refused(camera, "the first of none", INDEX, c -> c.ofFile(0, 0));
        camera.take(1, 1);
        Checks.refused(camera, "a frame is no file", INDEX, c -> c.ofFile(0, 0));
        for (int files = 1; files <= 6; files++) {
            camera.save(0);
            for (int what : new int[] {0, 3}) {
                Checks.range(camera, "file of " + files, 0, files - 1, INDEX, (c, v) -> c.ofFile(v, what));
            }
        }
    }

    private static void ofPlace() {
        Camera camera = new Camera();
        for (int[] at : new int[][] {{0, 0, 0}, {7, 0, 1}, {0, 7, 1}, {7, 7, 2}}) {
            camera.paint(at[0], at[1], at[0], at[1], 255 + 256 + 65536 * 254);
            Checks.same("red", camera.ofPlace(at[0], at[1], 0), 255);
            Checks.same("green", camera.ofPlace(at[0], at[1], 1), 1);
            Checks.same("blue", camera.ofPlace(at[0], at[1], 2), 254);
            Checks.same("seen", camera.ofPlace(at[0], at[1], 3), at[2]);
            for (int how = 2; how >= 0; how--) {
                camera.spoil(at[0], at[1], how);
                Checks.same("how", camera.ofPlace(at[0], at[1], 4), how);
            }
        }
    }

    private static void ofPlaceMapped() {
        Camera camera = new Camera();
        for (int[] at : new int[][] {{0, 0}, {7, 0}, {0, 7}, {7, 7}}) {
            Checks.same("not mapped", camera.ofPlace(at[0], at[1], 5), 0);
            camera.map(at[0], at[1], true);
            Checks.same("mapped", camera.ofPlace(at[0], at[1], 5), 1);
        }
        camera.map(0, 0, false);
        Checks.same("not any more", camera.ofPlace(0, 0, 5), 0);
    }

    private static void many() {
        Camera camera = Cameras.crowded();
        int[] due = {6, 6, 2, 44, 36, 2, 1};
        for (int what = 0; what <= 6; what++) {
            Checks.same("of none, " + what, new Camera().many(what), 0);
            Checks.same("of a crowded one, " + what, camera.many(what), due[what]);
        }
        camera.undo(0);
        camera.undo(5);
        Checks.same("edits behind two taken back", camera.many(4), 34);
    }

    private static void manyNotGood() {
        Camera camera = new Camera();
        for (int place = 0; place < 64; place++) {
            camera.spoil(place % 8, place / 8, 1 + place % 2);
            Checks.same("not good", camera.many(5), place + 1);
        }
        Checks.same("none is mapped", camera.many(6), 64);
        for (int place = 0; place < 64; place++) {
            camera.map(place % 8, place / 8, true);
            Checks.same("not mapped", camera.many(6), 63 - place);
        }
        camera.spoil(0, 0, 0);
        Checks.same("one is good", camera.many(5), 63);
        camera.map(0, 0, false);
        Checks.same("a good one that is not mapped does not count", camera.many(6), 0);
        camera.map(7, 7, false);
        Checks.same("one that is not good, and not mapped", camera.many(6), 1);
    }

    private static void manyWhats() {
        for (Camera camera : new Camera[] {new Camera(), Cameras.rich(), Cameras.crowded()}) {
            Checks.range(camera, "what", 0, 6, ARGUMENT, (c, v) -> c.many(v));
        }
    }

    private static void apartTheSame() {
        Camera camera = Cameras.crowded();
        for (int frame = 0; frame < 6; frame++) {
            Checks.same("the same", camera.apart(frame, frame), 0.0);
        }
        Camera alike = Cameras.withHot(3, 3);
        alike.take(1, 1);
        // The draw is seen in good places alone, of which there is none.
        Checks.same("another one that is alike", alike.apart(0, 1), 0.0);
    }

    private static void apartGreatest() {
        Camera camera = Cameras.withRaw(0, 0, 100, 4, 4, 100, 7, 7, 100);
        Cameras.takeRaw(camera, 0, 0, 130, 4, 4, 60, 7, 7, 110);
        Checks.same("40 of 30, 40 and 10", camera.apart(0, 1), 40.0);
        Camera most = Cameras.withHot();
        Cameras.takeColours(most, true, true, true);
        Checks.same("255, the most", most.apart(0, 1), 255.0);
        Camera least = Cameras.withRaw(0, 0, 100);
        Cameras.takeRaw(least, 0, 0, 101);
        Checks.same("1", least.apart(0, 1), 1.0);
        for (int frame = 0; frame < 2; frame++) {
            least.edit(frame, 3, 0);
            least.edit(frame, 3, 0);
        }
        Checks.same("0.25", least.apart(0, 1), 0.25);
        Checks.same("0.25, the other way round", least.apart(1, 0), 0.25);
    }

    private static void apartWithoutSign() {
        Camera camera = Cameras.withRaw(0, 0, 100, 4, 4, 100);
        Cameras.takeRaw(camera, 0, 0, 130, 4, 4, 60);
        Checks.same("by less", camera.apart(0, 1), 40.0);
        Checks.same("by more", camera.apart(1, 0), 40.0);
        Camera more = Cameras.withRaw(0, 0, 100);
        Cameras.takeRaw(more, 0, 0, 130);
        Checks.same("all is less", more.apart(0, 1), 30.0);
        Checks.same("all is more", more.apart(1, 0), 30.0);
    }

    private static void apartAnywhere() {
        Camera dark = Cameras.withHot();
        for (int place = 0; place < 64; place++) {
            Camera camera = dark.copy();
            Cameras.takeRaw(camera, place % 8, place / 8, 255);
            Checks.same("hot at " + place, camera.apart(0, 1), 255.0);
            camera.edit(1, 3, 0);
            Checks.same("hot at " + place + ", half", camera.apart(1, 0), 127.5);
        }
        // 255 of red alone, made more than 255, is held ahead of the difference.
        Camera camera = dark.copy();
        Cameras.takeRaw(camera, 0, 0, 255);
        camera.edit(1, 1, 16);
        Checks.same("held", camera.apart(0, 1), 255.0);
    }

    private static void apartInFloat() {
        // A third of 127 beside (1, 0), and 255 where a flip puts it: at (2, 0).
        Camera camera = Cameras.withRaw(1, 0, 127);
        Cameras.takeHot(camera, 5, 0);
        camera.edit(1, 4, 0);
        Checks.same("255f less a third", camera.apart(0, 1), (double) (255f - 127f / 3f));
        Checks.same("it is no difference of doubles", camera.apart(0, 1) == 255.0 - (double) (127f / 3f), false);
    }

    private static void apartFrames() {
        Checks.frames("one", (c, v) -> c.apart(v, 0));
        Checks.frames("other", (c, v) -> c.apart(0, v));
        Checks.frames("both", (c, v) -> c.apart(v, v));
    }
}
