/** Promises 6 to 10: frames, edits and files. */
public final class FramesTest {
    public static void main(String[] args) {
        takeDark();
        takeLight();
        takeSpoilt();
        takeRefused();
        mergeTwo();
        mergeMany();
        mergeRefused();
        edit();
        editRefused();
        undo();
        save();
        saveRefused();
        Checks.end();
    }

    private static void takeDark() {
        Camera camera = new Camera();
        Checks.same("take first", camera.take(1, 1), 0);
        // Draws of 5, 15, 35, 14, 33, 10, 25 and 55, modulo 8, above 12.
        int[] row = {17, 19, 15, 18, 13, 14, 13, 19};
        for (int x = 0; x < 8; x++) {
            Checks.same("dark raw " + x, camera.raw(0, x, 0), row[x]);
        }
        Checks.same("dark raw below", camera.raw(0, 0, 1), 12 + 54 % 8);
        // A round of draws is 60 long: the 64th is the fourth again.
        Checks.same("draw", camera.many(3), 14);
        Checks.same("take second", camera.take(64, 8), 1);
        Checks.same("dark raw of the second", camera.raw(1, 0, 0), 12 + 33 % 8);
        Checks.same("many frames", camera.many(0), 2);
    }

    private static void takeLight() {
        Camera camera = new Camera();
        camera.paint(0, 0, 0, 0, 10);
        camera.paint(1, 0, 1, 0, 256 * 13);
        camera.paint(2, 0, 2, 0, 255);
        camera.paint(3, 0, 3, 0, 255 + 65536 * 255);
        camera.lamp(4, 7, 4);
        camera.take(7, 8);
        Checks.same("10 * 7 / 16 is 4, times 8", camera.raw(0, 0, 0), 12 + 32 + 5);
        Checks.same("13 * 1.75 * 7 / 16 is 9, times 8", camera.raw(0, 1, 0), 12 + 72 + 7);
        Checks.same("over 255", camera.raw(0, 2, 0), 255);
        Checks.same("a green place sees green alone", camera.raw(0, 3, 0), 12 + 6);
        camera.paint(0, 0, 7, 7, 0xffffff);
        camera.lamp(16, 16, 16);
        camera.take(64, 8);
        Checks.same("all clipped", camera.ofFrame(1, 3), 64);
        camera.paint(0, 0, 7, 7, 0);
        Checks.same("earlier frames stay", camera.raw(0, 1, 0), 91);
    }

    private static void takeSpoilt() {
        Camera camera = new Camera();
        camera.paint(0, 0, 7, 7, Cameras.GREY_100);
        camera.spoil(0, 0, 1);
        camera.spoil(1, 0, 2);
        camera.map(2, 0, true);
        camera.take(16, 1);
        Checks.same("dead", camera.raw(0, 0, 0), 0);
        Checks.same("hot", camera.raw(0, 1, 0), 255);
        Checks.same("behind a dead and a hot one, mapped", camera.raw(0, 2, 0), 12 + 100 + 35 % 8);
        Checks.same("draw", camera.many(3), 14);
    }

    private static void takeRefused() {
        Camera camera = new Camera();
        int[][] wrongs = {{0, 1}, {65, 1}, {1, 0}, {1, 9}, {-1, 1}, {1, -1}, {Integer.MIN_VALUE, 1},
            {Integer.MAX_VALUE, 1}, {1, Integer.MIN_VALUE}, {1, Integer.MAX_VALUE}};
        Camera full = Cameras.full();
        for (int[] w : wrongs) {
            Checks.refused(camera, "take " + w[0] + " " + w[1], Cameras.ARGUMENT, c -> c.take(w[0], w[1]));
            Checks.refused(full, "take, full, " + w[0] + " " + w[1], Cameras.ARGUMENT, c -> c.take(w[0], w[1]));
        }
        Checks.refused(full, "take the seventh", Cameras.STATE, c -> c.take(1, 1));
        Checks.same("the sixth", full.many(0), 6);
    }

    private static void mergeTwo() {
        Camera camera = new Camera();
        camera.take(3, 2);
        camera.take(5, 4);
        camera.edit(0, 4, 0);
        // 17 and 13 at the first place.
        int drawn = camera.many(3);
        Checks.same("merge at its limit", camera.merge(3, 4), 2);
        Checks.same("mean", camera.raw(2, 0, 0), 15);
        Checks.same("merge below it", camera.merge(3, 3), 3);
        Checks.same("the first alone", camera.raw(3, 0, 0), 17);
        Checks.same("time", camera.ofFrame(2, 0), 3);
        Checks.same("gain", camera.ofFrame(2, 1), 2);
        Checks.same("without edits", camera.ofFrame(2, 2), 0);
        Checks.same("without files", camera.ofFrame(2, 8), 0);
        Checks.same("draw stays", camera.many(3), drawn);
        int ghosts3 = 0;
        int ghosts4 = 0;
        for (int place = 0; place < 64; place++) {
            int off = Math.abs(camera.raw(0, place % 8, place / 8) - camera.raw(1, place % 8, place / 8));
            ghosts3 += off > 3 ? 1 : 0;
            ghosts4 += off > 4 ? 1 : 0;
        }
        Checks.same("ghosts of 4", camera.ofFrame(2, 4), ghosts4);
        Checks.same("ghosts of 3", camera.ofFrame(3, 4), ghosts3);
        Checks.same("merge the latter, the merged too", camera.merge(2 + 4, 0), 4);
        Checks.same("time of the latter", camera.ofFrame(4, 0), 5);
    }

    private static void mergeMany() {
        Camera camera = new Camera();
        Cameras.takeHot(camera);
        Cameras.takeHot(camera, 0, 0, 7, 7);
        Cameras.takeHot(camera, 0, 0, 3, 4);
        Checks.same("merge 255", camera.merge(7, 255), 3);
        Checks.same("510 / 3", camera.raw(3, 0, 0), 170);
        Checks.same("255 / 3", camera.raw(3, 7, 7), 85);
        Checks.same("0 / 3", camera.raw(3, 1, 1), 0);
        Checks.same("no ghosts", camera.ofFrame(3, 4), 0);
        Checks.same("merge 254", camera.merge(7, 254), 4);
        Checks.same("ghosts, both frames", camera.ofFrame(4, 4), 4);
        Checks.same("without ghosts", camera.raw(4, 0, 0), 0);
        Checks.same("merge 254 by the second", camera.merge(2 + 4, 254), 5);
        Checks.same("both the same", camera.raw(5, 0, 0), 255);
        Checks.same("ghosts of the second", camera.ofFrame(5, 4), 2);
        Checks.same("taken frames have no ghosts", camera.ofFrame(2, 4), 0);
    }

    private static void mergeRefused() {
        Camera camera = new Camera();
        for (int set : new int[] {0, 1, 3, -1}) {
            Checks.refused(camera, "merge of none, " + set, Cameras.ARGUMENT, c -> c.merge(set, 0));
        }
        camera.take(1, 1);
        camera.take(1, 1);
        for (int set : new int[] {0, 1, 2, 4, 5, 6, 7, 64, 67, -1, -2, Integer.MIN_VALUE + 3, Integer.MIN_VALUE, Integer.MAX_VALUE}) {
            Checks.refused(camera, "merge " + set, Cameras.ARGUMENT, c -> c.merge(set, 255));
        }
        Camera full = Cameras.full();
        for (int limit : new int[] {-1, 256, Integer.MIN_VALUE, Integer.MAX_VALUE}) {
            Checks.refused(camera, "merge limit " + limit, Cameras.ARGUMENT, c -> c.merge(3, limit));
            Checks.refused(full, "merge, full, limit " + limit, Cameras.ARGUMENT, c -> c.merge(3, limit));
        }
        Checks.refused(full, "merge, full, 1", Cameras.ARGUMENT, c -> c.merge(1, 0));
        Checks.refused(full, "merge, full, 64", Cameras.ARGUMENT, c -> c.merge(67, 0));
        Checks.refused(full, "merge, full", Cameras.STATE, c -> c.merge(63, 0));
    }

    private static void edit() {
        Camera camera = new Camera();
        camera.take(1, 1);
        camera.take(1, 1);
        int[][] told = {{0, 0}, {0, 64}, {1, 1}, {1, 16}, {2, 1}, {2, 16}, {3, 0}, {3, 2}, {4, 0}, {5, 0}};
        for (int k = 0; k < told.length; k++) {
            int frame = k < 5 ? 0 : 1;
            Checks.same("edit " + k, camera.edit(frame, told[k][0], told[k][1]), k % 5 + 1);
            Checks.same("edit's kind " + k, camera.ofEdit(frame, k % 5, 0), told[k][0]);
            Checks.same("edit's number " + k, camera.ofEdit(frame, k % 5, 1), told[k][1]);
        }
        Checks.same("edit, the sixth", camera.edit(0, 5, 0), 6);
        Checks.same("edits of all", camera.many(4), 11);
    }

    private static void editRefused() {
        Camera camera = new Camera();
        Checks.refused(camera, "edit of none", Cameras.INDEX, c -> c.edit(0, 6, 0));
        camera.take(1, 1);
        for (int frame : new int[] {-1, 1, 6, Integer.MIN_VALUE, Integer.MAX_VALUE}) {
            Checks.refused(camera, "edit frame " + frame, Cameras.INDEX, c -> c.edit(frame, 6, -1));
        }
        editNumbersRefused(camera);
        for (int k = 0; k < 6; k++) {
            camera.edit(0, 0, k);
        }
        editNumbersRefused(camera);
        Checks.refused(camera, "edit, the seventh", Cameras.STATE, c -> c.edit(0, 0, 1));
        camera.undo(0);
        Checks.same("edit behind undo", camera.edit(0, 0, 1), 6);
    }

    private static void editNumbersRefused(Camera camera) {
        int[][] wrongs = {{-1, 0}, {6, 0}, {Integer.MIN_VALUE, 0}, {Integer.MAX_VALUE, 0}, {0, -1}, {0, 65}, {1, 0},
            {1, 17}, {2, 0}, {2, 17}, {3, -1}, {3, 3}, {4, -1}, {4, 1}, {5, -1}, {5, 1}, {0, Integer.MIN_VALUE},
            {3, Integer.MAX_VALUE}};
        for (int[] w : wrongs) {
            Checks.refused(camera, "edit " + w[0] + " " + w[1], Cameras.ARGUMENT, c -> c.edit(0, w[0], w[1]));
        }
    }

    private static void undo() {
        Camera camera = new Camera();
        Checks.refused(camera, "undo of none", Cameras.INDEX, c -> c.undo(0));
        camera.take(1, 1);
        camera.take(1, 1);
        Checks.keeps(camera, "undo without edits", c -> c.undo(0));
        Checks.same("undo none", camera.undo(0), -1);
        camera.edit(0, 1, 7);
        camera.edit(0, 3, 2);
        camera.edit(1, 5, 0);
        Checks.same("undo latest", camera.undo(0), 3);
        Checks.same("undo first", camera.undo(0), 1);
        Checks.same("undo none left", camera.undo(0), -1);
        Checks.same("the other frame's stays", camera.many(4), 1);
        for (int frame : new int[] {-1, 2, 6, Integer.MIN_VALUE, Integer.MAX_VALUE}) {
            Checks.refused(camera, "undo frame " + frame, Cameras.INDEX, c -> c.undo(frame));
        }
        Checks.same("undo, told behind an undo", camera.edit(0, 4, 0), 1);
        Checks.same("the edit that stands", camera.ofEdit(0, 0, 0), 4);
    }

    private static void save() {
        Camera camera = Cameras.withHot(2, 2);
        Cameras.takeHot(camera, 3, 3);
        Checks.same("save first", camera.save(0), 0);
        int bare = camera.word(0);
        camera.edit(0, 3, 2);
        camera.edit(0, 4, 0);
        Checks.same("save second", camera.save(0), 1);
        int edited = camera.word(0);
        Checks.same("save other", camera.save(1), 2);
        camera.undo(0);
        camera.undo(0);
        camera.edit(0, 0, 9);
        Checks.same("first as it was", camera.ofFile(0, 3), bare);
        Checks.same("second as it was", camera.ofFile(1, 3), edited);
        Checks.same("second has two edits", camera.ofFile(1, 2), 2);
        Checks.same("versions", camera.ofFile(0, 1) + 10 * camera.ofFile(1, 1) + 100 * camera.ofFile(2, 1), 121);
        Checks.same("many files", camera.many(1), 3);
        Checks.same("the frame keeps its edits", camera.ofFrame(0, 2), 1);
    }

    private static void saveRefused() {
        Camera camera = new Camera();
        Checks.refused(camera, "save of none", Cameras.INDEX, c -> c.save(0));
        camera.take(1, 1);
        for (int k = 0; k < 6; k++) {
            for (int frame : new int[] {-1, 1, Integer.MIN_VALUE, Integer.MAX_VALUE}) {
                Checks.refused(camera, "save frame " + frame, Cameras.INDEX, c -> c.save(frame));
            }
            Checks.same("save " + k, camera.save(0), k);
        }
        Checks.refused(camera, "save, full, of none", Cameras.INDEX, c -> c.save(1));
        Checks.refused(camera, "save the seventh", Cameras.STATE, c -> c.save(0));
    }
}
