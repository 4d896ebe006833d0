/** Section 4 of the document, and what stands behind it: sentence by sentence. */
final class FileEdges {
    private static final String AT = "4. Bursts and files";
    private static final Class<?> INDEX = Cameras.INDEX;
    private static final Class<?> ARGUMENT = Cameras.ARGUMENT;
    private static final Class<?> STATE = Cameras.STATE;

    private FileEdges() {
    }

    static void tell(Document document) {
        document.says(AT, "To MERGE a set of FRAMES (2 at least)", FileEdges::twoAtLeast);
        document.says(AT, "a new FRAME", FileEdges::newFrame);
        document.says(AT, "with the TIME and GAIN of the one with the smallest number", FileEdges::timeAndGain);
        document.says(AT, "and without EDITS", FileEdges::withoutEdits);
        document.says(AT, "in each PLACE the mean (whole) of RAW", FileEdges::meanIsWhole);
        document.says(AT, "of those in which it is no GHOST", FileEdges::withoutGhosts);
        document.says(AT, "RAW there differs by no more than a LIMIT", FileEdges::byNoMore);
        document.says(AT, "(0 to 255) from", FileEdges::limits);
        document.says(AT, "from that of the one with the smallest number", FileEdges::fromTheSmallest);
        document.says(AT, "GHOSTS are counted (FRAME by FRAME and PLACE by PLACE).", FileEdges::ghosts);
        document.says(AT, "FILES: at most 6, numbered from 0", FileEdges::sixFiles);
        document.says(AT, "a FRAME with its EDITS as they are", FileEdges::editsAsTheyAre);
        document.says(AT, "a VERSION of 1, and 1 more for each older FILE of the same FRAME", FileEdges::versions);
        document.says(AT, "later EDITS do not change it", FileEdges::laterEdits);
        document.says(AT, "A method that throws an exception changes nothing.", FileEdges::changesNothing);
        document.says(AT, "If several exceptions apply, the one that is named first is thrown.", FileEdges::namedFirst);
        document.says(AT, "Ahead of the calls `paint`, `lamp`, `spoil`, `map` the interface says: ---- what is told.",
            FileEdges::whatIsTold);
        document.says(AT, "Ahead of the calls `take`, `merge`, `edit`, `undo`, `save` the interface says: ---- frames and edits.",
            FileEdges::framesAndEdits);
        document.says(AT, "Ahead of the calls `raw`, `picture`, `word`, `ofFrame`, `ofEdit`, `zone`, `meter`, `ofFile`,"
            + " `ofPlace`, `many`, `apart` the interface says: ---- what one asks.", FileEdges::whatOneAsks);
        document.says(AT, "Ahead of the calls `wouldClip`, `bestTake`, `bestWhite`, `digest` the interface says: ---- what would"
            + " be (nothing is changed).", FileEdges::whatWouldBe);
    }

    private static void twoAtLeast() {
        Camera camera = new Camera();
        for (int frame = 0; frame < 5; frame++) {
            camera.take(1, 1);
        }
        for (int set : new int[] {0, 1, 2, 4, 8, 16}) {
            Checks.refused(camera, "fewer than two, " + set, ARGUMENT, c -> c.merge(set, 9));
        }
        for (int set : new int[] {3, 5, 9, 17, 24, 7, 15, 30, 31}) {
            Checks.same("two at least, " + set, camera.copy().merge(set, 9), 5);
        }
    }

    private static void newFrame() {
        Camera camera = Cameras.withRaw(0, 0, 100, 7, 7, 20);
        Cameras.takeRaw(camera, 0, 0, 150, 7, 7, 255);
        Checks.same("its number", camera.merge(3, 255), 2);
        Checks.same("how many there are", camera.many(0), 3);
        int[][] due = {{100, 20}, {150, 255}, {125, 137}};
        for (int frame = 0; frame < 3; frame++) {
            Checks.same("the first place of " + frame, camera.raw(frame, 0, 0), due[frame][0]);
            Checks.same("the last place of " + frame, camera.raw(frame, 7, 7), due[frame][1]);
        }
        camera.edit(2, 3, 2);
        Checks.same("an edit of it", camera.picture(2, 0, 0, 0), 130.0);
        Checks.same("is none of the first", camera.picture(0, 0, 0, 0), 100.0);
        camera.save(2);
        Checks.same("a file of it", camera.ofFrame(2, 8), 1);
        Checks.same("is none of the second", camera.ofFrame(1, 8), 0);
        Checks.same("merged once more, with it", camera.merge(4 + 1, 255), 3);
        Checks.same("by its RAW, not its PICTURE", camera.raw(3, 0, 0), 112);
    }

    private static void timeAndGain() {
        Camera camera = new Camera();
        camera.take(64, 8);
        camera.take(1, 1);
        camera.take(7, 3);
        int[][] due = {{3, 64, 8}, {5, 64, 8}, {6, 1, 1}, {7, 64, 8}};
        for (int[] d : due) {
            Camera merging = camera.copy();
            merging.merge(d[0], 9);
            Checks.same("time of " + d[0], merging.ofFrame(3, 0), d[1]);
            Checks.same("gain of " + d[0], merging.ofFrame(3, 1), d[2]);
        }
        camera.merge(6, 9);
        camera.take(9, 2);
        Camera other = camera.copy();
        camera.merge(8 + 16, 9);
        Checks.same("time by a merged one", camera.ofFrame(5, 0), 1);
        Checks.same("gain by a merged one", camera.ofFrame(5, 1), 1);
        other.merge(4 + 8 + 16, 9);
        Checks.same("time with a merged one", other.ofFrame(5, 0), 7);
        Checks.same("gain with a merged one", other.ofFrame(5, 1), 3);
    }

    private static void withoutEdits() {
        Camera camera = Cameras.withHot(2, 2);
        camera.take(1, 1);
        for (int k = 0; k < 6; k++) {
            camera.edit(0, 3, 2);
            camera.edit(1, 3, 0);
        }
        camera.merge(3, 255);
        Checks.same("no edits", camera.ofFrame(2, 2), 0);
        Checks.same("of raw alone", camera.raw(2, 2, 2), 255);
        Checks.same("a picture without edits", camera.picture(2, 2, 2, 0), 255.0);
        Checks.same("the first keeps its own", camera.ofFrame(0, 2), 6);
        Checks.same("room for six", camera.edit(2, 4, 0), 1);
        Checks.same("the others have no more", camera.many(4), 13);
    }

    private static void meanIsWhole() {
        Camera camera = Cameras.withRaw(0, 0, 20, 1, 0, 20, 7, 7, 20);
        Cameras.takeRaw(camera, 0, 0, 21, 1, 0, 23, 7, 7, 255);
        Cameras.takeRaw(camera, 0, 0, 21, 1, 0, 20, 7, 7, 0);
        camera.merge(3, 255);
        camera.merge(7, 255);
        Checks.same("41 / 2", camera.raw(3, 0, 0), 20);
        Checks.same("43 / 2", camera.raw(3, 1, 0), 21);
        Checks.same("275 / 2", camera.raw(3, 7, 7), 137);
        Checks.same("62 / 3", camera.raw(4, 0, 0), 20);
        Checks.same("63 / 3", camera.raw(4, 1, 0), 21);
        Checks.same("275 / 3", camera.raw(4, 7, 7), 91);
        Checks.same("0 / 3", camera.raw(4, 3, 3), 0);
    }

    private static void withoutGhosts() {
        Camera camera = Cameras.withRaw(0, 0, 100);
        Cameras.takeRaw(camera, 0, 0, 200);
        Cameras.takeRaw(camera, 0, 0, 110);
        camera.merge(7, 50);
        Checks.same("the mean of the first and the third", camera.raw(3, 0, 0), 105);
        camera.merge(3, 50);
        Checks.same("the first alone", camera.raw(4, 0, 0), 100);
        camera.merge(7, 255);
        Checks.same("the mean of all", camera.raw(5, 0, 0), 136);
    }

    private static void byNoMore() {
        int[][] due = {{110, 9, 100, 1}, {110, 10, 105, 0}, {110, 11, 105, 0}, {90, 9, 100, 1}, {90, 10, 95, 0},
            {100, 0, 100, 0}, {101, 0, 100, 1}, {99, 0, 100, 1}, {101, 1, 100, 0}, {99, 1, 99, 0}};
        for (int[] d : due) {
            Camera camera = Cameras.withRaw(0, 0, 100);
            Cameras.takeRaw(camera, 0, 0, d[0]);
            camera.merge(3, d[1]);
            Checks.same("100 and " + d[0] + " by " + d[1], camera.raw(2, 0, 0), d[2]);
            Checks.same("ghosts of 100 and " + d[0] + " by " + d[1], camera.ofFrame(2, 4), d[3]);
        }
    }

    private static void limits() {
        Checks.range(Cameras.rich(), "limit", 0, 255, ARGUMENT, (c, v) -> c.merge(3, v));
        Camera camera = Cameras.withHot(0, 0);
        Cameras.takeHot(camera, 7, 7);
        camera.merge(3, 0);
        Checks.same("0: 255 and 0", camera.raw(2, 0, 0), 255);
        Checks.same("0: 0 and 255", camera.raw(2, 7, 7), 0);
        Checks.same("0: ghosts", camera.ofFrame(2, 4), 2);
        camera.merge(3, 254);
        Checks.same("254: ghosts", camera.ofFrame(3, 4), 2);
        camera.merge(3, 255);
        Checks.same("255: 255 and 0", camera.raw(4, 0, 0), 127);
        Checks.same("255: 0 and 255", camera.raw(4, 7, 7), 127);
        Checks.same("255: ghosts", camera.ofFrame(4, 4), 0);
    }

    private static void fromTheSmallest() {
        Camera camera = Cameras.withRaw(0, 0, 100);
        Cameras.takeRaw(camera, 0, 0, 105);
        Cameras.takeRaw(camera, 0, 0, 110);
        camera.merge(7, 5);
        Checks.same("110 is too far from 100", camera.raw(3, 0, 0), 102);
        Checks.same("one ghost", camera.ofFrame(3, 4), 1);
        camera.merge(6, 5);
        Checks.same("110 is not too far from 105", camera.raw(4, 0, 0), 107);
        Checks.same("no ghost", camera.ofFrame(4, 4), 0);
        camera.merge(5, 9);
        Checks.same("110 is too far from 100, without the second", camera.raw(5, 0, 0), 100);
    }

    private static void ghosts() {
        Camera camera = new Camera();
        Cameras.spoilAll(camera, 1);
        camera.take(1, 1);
        Cameras.spoilAll(camera, 2);
        for (int frame = 1; frame < 5; frame++) {
            camera.take(1, 1);
        }
        int[][] due = {{31, 255, 0}, {31, 254, 256}, {3, 254, 64}, {7, 0, 128}, {6, 0, 0}, {30, 0, 0}};
        for (int[] d : due) {
            Camera merging = camera.copy();
            merging.merge(d[0], d[1]);
            Checks.same("ghosts of " + d[0] + " by " + d[1], merging.ofFrame(5, 4), d[2]);
        }
        Checks.same("0 of a taken one", camera.ofFrame(0, 4), 0);
        Camera places = Cameras.withHot();
        Cameras.takeHot(places, 0, 0, 7, 7, 3, 4);
        Cameras.takeHot(places, 0, 0);
        places.merge(7, 100);
        Checks.same("three and one", places.ofFrame(3, 4), 4);
        places.merge(8 + 1, 100);
        Checks.same("none of a merged one and the first", places.ofFrame(4, 4), 0);
        places.merge(8 + 2, 100);
        Checks.same("the second's three, with a merged one", places.ofFrame(5, 4), 3);
        Camera again = Cameras.withHot(0, 0);
        Cameras.takeHot(again);
        again.merge(3, 100);
        Cameras.takeHot(again, 5, 5, 6, 6);
        again.merge(4 + 8, 100);
        Checks.same("a merged one's own do not count again", again.ofFrame(4, 4), 3);
    }

    private static void sixFiles() {
        Camera camera = new Camera();
        camera.take(1, 1);
        camera.take(1, 1);
        Checks.same("none", camera.many(1), 0);
        for (int file = 0; file < 6; file++) {
            Checks.same("file", camera.save(file % 2), file);
            Checks.same("files", camera.many(1), file + 1);
        }
        for (int frame = 0; frame < 2; frame++) {
            int of = frame;
            Checks.refused(camera, "the seventh, of " + frame, STATE, c -> c.save(of));
        }
        for (int file = 0; file < 6; file++) {
            Checks.same("frame of file " + file, camera.ofFile(file, 0), file % 2);
        }
    }

    private static void editsAsTheyAre() {
        Camera camera = Cameras.withHot(2, 2);
        camera.save(0);
        int[][] told = {{3, 2}, {0, 20}, {1, 3}, {4, 0}, {5, 0}, {3, 0}};
        int[] words = new int[7];
        words[0] = camera.word(0);
        for (int k = 0; k < 6; k++) {
            camera.edit(0, told[k][0], told[k][1]);
            words[k + 1] = camera.word(0);
            if (k != 2) {
                camera.save(0);
            }
        }
        int[] edits = {0, 1, 2, 4, 5, 6};
        for (int file = 0; file < 6; file++) {
            Checks.same("how many edits of " + file, camera.ofFile(file, 2), edits[file]);
            Checks.same("word of " + file, camera.ofFile(file, 3), words[edits[file]]);
        }
    }

    private static void versions() {
        Camera camera = new Camera();
        camera.take(1, 1);
        camera.take(1, 1);
        camera.take(1, 1);
        int[][] due = {{0, 1}, {1, 1}, {0, 2}, {0, 3}, {1, 2}, {2, 1}};
        for (int[] d : due) {
            camera.save(d[0]);
        }
        for (int file = 0; file < 6; file++) {
            Checks.same("frame of " + file, camera.ofFile(file, 0), due[file][0]);
            Checks.same("version of " + file, camera.ofFile(file, 1), due[file][1]);
        }
        Camera one = new Camera();
        one.take(1, 1);
        for (int file = 0; file < 6; file++) {
            one.save(0);
            Checks.same("version of " + file + " of one", one.ofFile(file, 1), file + 1);
        }
    }

    private static void laterEdits() {
        Camera camera = Cameras.withHot(2, 2);
        camera.edit(0, 3, 0);
        camera.edit(0, 4, 0);
        int before = camera.word(0);
        camera.save(0);
        camera.edit(0, 3, 2);
        Checks.same("behind one more", camera.ofFile(0, 3), before);
        Checks.same("edits behind one more", camera.ofFile(0, 2), 2);
        camera.undo(0);
        camera.undo(0);
        camera.undo(0);
        Checks.same("behind all are taken back", camera.ofFile(0, 3), before);
        Checks.same("edits behind all are taken back", camera.ofFile(0, 2), 2);
        camera.edit(0, 0, 64);
        camera.edit(0, 1, 9);
        Checks.same("behind others in their place", camera.ofFile(0, 3), before);
        camera.save(0);
        Checks.same("behind a later file", camera.ofFile(0, 3), before);
        Checks.same("the later file has others", camera.ofFile(1, 3), camera.word(0));
    }

    private static void none(Camera camera, String of, Class<?> due, Camera.Deed... deeds) {
        for (int k = 0; k < deeds.length; k++) {
            Checks.refused(camera, of + ", call " + k, due, deeds[k]);
        }
    }

    private static void changesNothing() {
        for (Camera camera : new Camera[] {new Camera(), Cameras.rich(), Cameras.crowded()}) {
            none(camera, "index", INDEX, c -> c.paint(0, 0, 7, 8, 1), c -> c.spoil(8, 0, 1), c -> c.map(0, -1, true),
                c -> c.edit(6, 4, 0), c -> c.undo(6), c -> c.save(6), c -> c.raw(6, 0, 0), c -> c.picture(6, 0, 0, 0),
                c -> c.word(6), c -> c.ofFrame(6, 0), c -> c.ofEdit(6, 0, 0), c -> c.zone(6, 0), c -> c.meter(6),
                c -> c.ofFile(6, 0), c -> c.ofPlace(8, 0, 0), c -> c.apart(0, 6), c -> c.bestWhite(6, 1));
            none(camera, "argument", ARGUMENT, c -> c.paint(1, 0, 0, 7, 1), c -> c.paint(0, 0, 7, 7, -1),
                c -> c.lamp(9, 9, 17), c -> c.lamp(9, 17, 9), c -> c.lamp(17, 9, 9), c -> c.spoil(0, 0, 3),
                c -> c.take(65, 1), c -> c.take(1, 9), c -> c.merge(1, 0), c -> c.merge(3, 256),
                c -> c.ofPlace(0, 0, 6), c -> c.many(7), c -> c.wouldClip(65, 1), c -> c.bestTake(256));
        }
        for (Camera camera : new Camera[] {Cameras.rich(), Cameras.crowded()}) {
            none(camera, "argument of a frame", ARGUMENT, c -> c.edit(0, 6, 0), c -> c.edit(0, 0, 65),
                c -> c.picture(0, 0, 0, 3), c -> c.ofFrame(0, 9), c -> c.ofEdit(0, 0, 2), c -> c.ofFile(0, 4),
                c -> c.bestWhite(0, 0));
        }
        none(Cameras.crowded(), "state", STATE, c -> c.take(1, 1), c -> c.merge(63, 0), c -> c.edit(0, 4, 0),
            c -> c.edit(5, 0, 64), c -> c.save(0), c -> c.save(5));
    }

    /** Each of these calls leaves something else to be asked than there was. */
    private static void changes(Camera camera, Camera.Deed... deeds) {
        String before = Checks.stateBehind(camera, c -> null);
        for (int k = 0; k < deeds.length; k++) {
            Checks.same("call " + k + " changes something", Checks.stateBehind(camera, deeds[k]).equals(before), false);
        }
    }

    private static void whatIsTold() {
        changes(Cameras.rich(), c -> c.paint(7, 7, 7, 7, 1), c -> c.lamp(5, 7, 7), c -> c.lamp(4, 6, 7), c -> c.lamp(5, 6, 8),
            c -> c.spoil(7, 7, 2), c -> c.spoil(4, 4, 0), c -> c.map(7, 7, true), c -> c.map(4, 4, false));
    }

    private static void framesAndEdits() {
        changes(Cameras.rich(), c -> c.take(1, 1), c -> c.merge(6, 9), c -> c.edit(1, 5, 0), c -> c.undo(0), c -> c.save(1));
    }

    private static void asks(Camera.Deed... deeds) {
        for (Camera camera : new Camera[] {Cameras.rich(), Cameras.crowded()}) {
            for (int k = 0; k < deeds.length; k++) {
                Checks.keeps(camera, "call " + k, deeds[k]);
            }
        }
    }

    private static void whatOneAsks() {
        asks(c -> c.raw(0, 4, 4), c -> c.picture(0, 4, 4, 0), c -> c.word(0), c -> c.ofFrame(0, 5), c -> c.ofFrame(2, 8),
            c -> c.ofEdit(0, 1, 1), c -> c.zone(0, 3), c -> c.meter(1), c -> c.ofFile(1, 3), c -> c.ofFile(2, 1),
            c -> c.ofPlace(4, 4, 4), c -> c.many(3), c -> c.apart(0, 2), c -> c.apart(1, 1));
    }

    private static void whatWouldBe() {
        asks(c -> c.wouldClip(64, 8), c -> c.wouldClip(1, 1), c -> c.bestTake(0), c -> c.bestTake(255), c -> c.bestWhite(0, 1),
            c -> c.bestWhite(2, 2), Camera::digest);
    }

    private static void namedFirst() {
        Camera crowded = Cameras.crowded();
        none(crowded, "index ahead of argument and state", INDEX, c -> c.paint(8, 0, 7, 7, -1), c -> c.paint(7, 7, 0, 8, -1),
            c -> c.paint(0, -1, 0, 0, 16777216), c -> c.paint(7, 0, -1, 0, 0), c -> c.spoil(8, 0, 3), c -> c.spoil(0, 8, -1),
            c -> c.edit(6, 6, 65), c -> c.edit(-1, 0, 65), c -> c.edit(6, 0, 0), c -> c.save(6), c -> c.save(-1),
            c -> c.picture(6, 0, 0, 3), c -> c.picture(0, 8, 0, 3), c -> c.picture(0, 0, 8, -1), c -> c.ofFrame(6, 9),
            c -> c.ofEdit(6, 0, 2), c -> c.ofEdit(0, 6, 2), c -> c.ofFile(6, 4), c -> c.ofPlace(8, 0, 6),
            c -> c.ofPlace(0, 8, -1), c -> c.bestWhite(6, 0));
        none(crowded, "argument ahead of state", ARGUMENT, c -> c.take(0, 1), c -> c.take(1, 0), c -> c.take(65, 9),
            c -> c.merge(1, 0), c -> c.merge(64 + 1, 0), c -> c.merge(3, -1), c -> c.merge(0, 256), c -> c.edit(0, 6, 0),
            c -> c.edit(0, 1, 0), c -> c.edit(0, 4, 1));
        none(new Camera(), "index of none ahead of argument", INDEX, c -> c.edit(0, 6, 0), c -> c.ofFrame(0, 9),
            c -> c.picture(0, 0, 0, 3), c -> c.ofEdit(0, 0, 2), c -> c.ofFile(0, 4), c -> c.bestWhite(0, 0));
    }
}
