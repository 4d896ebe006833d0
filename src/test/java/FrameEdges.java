/** Promises 6 to 10: sentence by sentence. */
final class FrameEdges {
    private static final Class<?> ARGUMENT = Cameras.ARGUMENT;
    private static final Class<?> STATE = Cameras.STATE;
    private static final String NO_FRAME = "Throws `IndexOutOfBoundsException` if there is no such FRAME";

    private FrameEdges() {
    }

    static void tell(Document document) {
        String at = "Promise 6: take";
        document.says(at, "Returns its number.", FrameEdges::takeNumber);
        document.says(at, "Throws `IllegalArgumentException` if time is not 1 to 64", FrameEdges::takeTimes);
        document.says(at, "or gain not 1 to 8", FrameEdges::takeGains);
        document.says(at, "Throws `IllegalStateException` if there are 6", FrameEdges::takeTheSeventh);
        at = "Promise 7: merge";
        document.says(at, "- `frames`: the set of FRAMES (the sum of 2^k)", FrameEdges::mergeSet);
        document.says(at, "Returns the number of the new one.", FrameEdges::mergeNumber);
        document.says(at, "Throws `IllegalArgumentException` if frames has one that there is not", FrameEdges::mergeOneThatIsNot);
        document.says(at, "or less than two", FrameEdges::mergeLessThanTwo);
        document.says(at, "or limit is not 0 to 255", FrameEdges::mergeLimits);
        document.says(at, "Throws `IllegalStateException` if there are 6", FrameEdges::mergeTheSeventh);
        at = "Promise 8: edit";
        document.says(at, "Tells an EDIT of a FRAME, behind the others.", FrameEdges::editBehind);
        document.says(at, "Returns how many it has then.", FrameEdges::editMany);
        document.says(at, NO_FRAME, () -> Checks.frames("edit", (c, v) -> c.edit(v, 4, 0)));
        document.says(at, "Throws `IllegalArgumentException` if kind is not 0 to 5",
            () -> Checks.range(Cameras.rich(), "kind", 0, 5, ARGUMENT, (c, v) -> c.edit(1, v, v == 1 || v == 2 ? 1 : 0)));
        document.says(at, "or number not in the range of that", FrameEdges::editNumbers);
        document.says(at, "Throws `IllegalStateException` if it has 6", FrameEdges::editTheSeventh);
        at = "Promise 9: undo";
        document.says(at, "Takes back the latest EDIT of a FRAME.", FrameEdges::undoLatest);
        document.says(at, "Returns its KIND", FrameEdges::undoKind);
        document.says(at, "NONE, if it has none.", FrameEdges::undoNone);
        document.says(at, NO_FRAME, () -> Checks.frames("undo", (c, v) -> c.undo(v)));
        at = "Promise 10: save";
        document.says(at, "Returns its number.", FrameEdges::saveNumber);
        document.says(at, NO_FRAME, () -> Checks.frames("save", (c, v) -> c.save(v)));
        document.says(at, "Throws `IllegalStateException` if there are 6", FrameEdges::saveTheSeventh);
    }

    private static void takeNumber() {
        Camera camera = new Camera();
        for (int frame = 0; frame < 6; frame++) {
            Checks.same("taken", camera.take(1, 1), frame);
            Checks.same("how many", camera.many(0), frame + 1);
        }
    }

    private static void takeTimes() {
        Checks.range(new Camera(), "time", 1, 64, ARGUMENT, (c, v) -> c.take(v, 8));
        Checks.range(Cameras.rich(), "time, behind others", 1, 64, ARGUMENT, (c, v) -> c.take(v, 1));
    }

    private static void takeGains() {
        Checks.range(new Camera(), "gain", 1, 8, ARGUMENT, (c, v) -> c.take(64, v));
        Checks.range(Cameras.rich(), "gain, behind others", 1, 8, ARGUMENT, (c, v) -> c.take(1, v));
    }

    private static void takeTheSeventh() {
        Camera camera = new Camera();
        for (int frame = 0; frame < 5; frame++) {
            camera.take(1, 1);
        }
        Checks.same("the sixth", camera.copy().take(64, 8), 5);
        camera.take(1, 1);
        Checks.refused(camera, "the seventh", STATE, c -> c.take(1, 1));
        Checks.refused(camera, "the seventh, greatest", STATE, c -> c.take(64, 8));
    }

    private static void mergeSet() {
        // Five frames with one hot place each, and a merge as the sixth.
        Camera camera = Cameras.withHot(0, 0);
        Cameras.takeRaw(camera, 0, 0, 0, 1, 0, 255);
        Cameras.takeRaw(camera, 1, 0, 0, 2, 0, 255);
        Cameras.takeRaw(camera, 2, 0, 0, 3, 0, 255);
        Cameras.takeRaw(camera, 3, 0, 0, 4, 0, 255);
        for (int set = 3; set < 32; set++) {
            if (Integer.bitCount(set) >= 2) {
                Camera merging = camera.copy();
                merging.merge(set, 255);
                for (int frame = 0; frame < 5; frame++) {
                    int due = (set & 1 << frame) == 0 ? 0 : 255 / Integer.bitCount(set);
                    Checks.same("frame " + frame + " in " + set, merging.raw(5, frame, 0), due);
                }
            }
        }
    }

    private static void mergeNumber() {
        Camera camera = new Camera();
        camera.take(1, 1);
        camera.take(1, 1);
        for (int frame = 2; frame < 6; frame++) {
            Checks.same("merged", camera.merge(3, 9), frame);
            Checks.same("how many", camera.many(0), frame + 1);
        }
    }

    private static void mergeOneThatIsNot() {
        Camera camera = Cameras.rich();
        for (int set : new int[] {8, 8 + 1, 8 + 3, 15, 16 + 3, 32 + 3, 64 + 3, 1024 + 7, (1 << 30) + 3, Integer.MIN_VALUE + 3,
            Integer.MIN_VALUE, Integer.MAX_VALUE, -1, -2}) {
            Checks.refused(camera, "three frames, set " + set, ARGUMENT, c -> c.merge(set, 9));
        }
        Checks.same("all three", camera.merge(7, 9), 3);
        Checks.same("now all four", camera.copy().merge(15, 9), 4);
        Checks.same("the fourth and the first", camera.merge(8 + 1, 9), 4);
        Checks.refused(camera, "five frames, the sixth", ARGUMENT, c -> c.merge(32 + 1, 9));
        for (int set : new int[] {0, 1, 3, -1}) {
            Checks.refused(new Camera(), "no frame, set " + set, ARGUMENT, c -> c.merge(set, 9));
        }
        Camera one = new Camera();
        one.take(1, 1);
        Checks.refused(one, "one frame, set 3", ARGUMENT, c -> c.merge(3, 9));
        Checks.refused(Cameras.full(), "six frames, the seventh", ARGUMENT, c -> c.merge(64 + 3, 9));
        Checks.refused(Cameras.full(), "six frames, all and the 32nd", ARGUMENT, c -> c.merge(-1, 9));
    }

    private static void mergeLessThanTwo() {
        Camera camera = Cameras.rich();
        for (int set : new int[] {0, 1, 2, 4}) {
            Checks.refused(camera, "set " + set, ARGUMENT, c -> c.merge(set, 9));
            Checks.refused(Cameras.full(), "set " + set + " of six", ARGUMENT, c -> c.merge(set, 9));
        }
        for (int set : new int[] {3, 5, 6}) {
            Checks.same("just two, set " + set, camera.copy().merge(set, 9), 3);
        }
        Checks.refused(Cameras.full(), "the sixth of six alone", ARGUMENT, c -> c.merge(32, 9));
    }

    private static void mergeLimits() {
        Checks.range(Cameras.rich(), "limit", 0, 255, ARGUMENT, (c, v) -> c.merge(6, v));
    }

    private static void mergeTheSeventh() {
        Camera camera = new Camera();
        for (int frame = 0; frame < 5; frame++) {
            camera.take(1, 1);
        }
        Checks.same("the sixth", camera.merge(31, 0), 5);
        Checks.refused(camera, "the seventh", STATE, c -> c.merge(3, 0));
        Checks.refused(camera, "the seventh, of all", STATE, c -> c.merge(63, 255));
        Checks.refused(camera, "the seventh, of the last two", STATE, c -> c.merge(48, 255));
    }

    private static void editBehind() {
        Camera camera = new Camera();
        camera.take(1, 1);
        camera.take(1, 1);
        for (int k = 0; k < 6; k++) {
            camera.edit(0, 0, 10 + k);
            camera.edit(1, 1, 16 - k);
            for (int told = 0; told <= k; told++) {
                Checks.same("number " + told, camera.ofEdit(0, told, 1), 10 + told);
                Checks.same("number " + told + " of the other", camera.ofEdit(1, told, 1), 16 - told);
            }
        }
    }

    private static void editMany() {
        Camera camera = new Camera();
        camera.take(1, 1);
        camera.take(1, 1);
        int[] least = {0, 1, 1, 0, 0, 0};
        for (int kind = 0; kind < 6; kind++) {
            Checks.same("then", camera.edit(0, kind, least[kind]), kind + 1);
        }
        Checks.same("the first of another frame", camera.edit(1, 4, 0), 1);
        camera.undo(0);
        camera.undo(0);
        Checks.same("behind two taken back", camera.edit(0, 0, 64), 5);
    }

    private static void editNumbers() {
        int[][] ranges = {{0, 64}, {1, 16}, {1, 16}, {0, 2}, {0, 0}, {0, 0}};
        Camera full = Cameras.crowded();
        for (int kind = 0; kind < 6; kind++) {
            int of = kind;
            Checks.range(Cameras.rich(), "number of " + kind, ranges[kind][0], ranges[kind][1], ARGUMENT,
                (c, v) -> c.edit(2, of, v));
            Checks.refused(full, "too small, and no room", ARGUMENT, c -> c.edit(2, of, ranges[of][0] - 1));
            Checks.refused(full, "too great, and no room", ARGUMENT, c -> c.edit(2, of, ranges[of][1] + 1));
        }
    }

    private static void editTheSeventh() {
        Camera camera = new Camera();
        camera.take(1, 1);
        camera.take(1, 1);
        for (int k = 0; k < 5; k++) {
            camera.edit(0, 4, 0);
        }
        Checks.same("the sixth", camera.edit(0, 5, 0), 6);
        Checks.refused(camera, "the seventh", STATE, c -> c.edit(0, 4, 0));
        Checks.refused(camera, "the seventh, black", STATE, c -> c.edit(0, 0, 64));
        Checks.same("of another frame", camera.edit(1, 4, 0), 1);
        camera.undo(0);
        Checks.same("the sixth again", camera.edit(0, 4, 0), 6);
    }

    private static void undoLatest() {
        Camera camera = new Camera();
        camera.take(1, 1);
        camera.take(1, 1);
        camera.edit(0, 0, 10);
        camera.edit(0, 1, 11);
        camera.edit(0, 2, 12);
        camera.edit(1, 3, 1);
        camera.undo(0);
        Checks.same("two are left", camera.ofFrame(0, 2), 2);
        Checks.same("the first stays", camera.ofEdit(0, 0, 1), 10);
        Checks.same("the second stays", camera.ofEdit(0, 1, 1), 11);
        Checks.refused(camera, "the third is no more", Cameras.INDEX, c -> c.ofEdit(0, 2, 0));
        Checks.same("the other frame's stays", camera.ofEdit(1, 0, 0), 3);
        Checks.same("edits of all", camera.many(4), 3);
    }

    private static void undoKind() {
        Camera camera = new Camera();
        camera.take(1, 1);
        int[] numbers = {64, 16, 16, 2, 0, 0};
        for (int kind = 0; kind < 6; kind++) {
            camera.edit(0, kind, numbers[kind]);
        }
        for (int kind = 5; kind >= 0; kind--) {
            Checks.same("kind", camera.undo(0), kind);
            Checks.same("left", camera.ofFrame(0, 2), kind);
        }
    }

    private static void undoNone() {
        Camera camera = new Camera();
        camera.take(1, 1);
        camera.take(1, 1);
        camera.edit(1, 4, 0);
        Checks.same("none at first", camera.undo(0), -1);
        Checks.same("none again", camera.undo(0), -1);
        Checks.keeps(camera, "none", c -> c.undo(0));
        camera.edit(0, 0, 5);
        Checks.same("a black one is no NONE", camera.undo(0), 0);
        Checks.same("none any more", camera.undo(0), -1);
        Checks.same("no edits", camera.ofFrame(0, 2), 0);
        Checks.same("the other frame's stays", camera.ofFrame(1, 2), 1);
    }

    private static void saveNumber() {
        Camera camera = new Camera();
        camera.take(1, 1);
        camera.take(1, 1);
        int[] frames = {1, 1, 0, 1, 0, 0};
        for (int file = 0; file < 6; file++) {
            Checks.same("saved", camera.save(frames[file]), file);
            Checks.same("its frame", camera.ofFile(file, 0), frames[file]);
        }
    }

    private static void saveTheSeventh() {
        Camera camera = Cameras.rich();
        camera.save(1);
        camera.save(1);
        Checks.same("the sixth", camera.save(0), 5);
        for (int frame = 0; frame < 3; frame++) {
            int of = frame;
            Checks.refused(camera, "the seventh, of " + frame, STATE, c -> c.save(of));
        }
    }
}
