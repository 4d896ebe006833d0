/** Promises 11 to 13: raw numbers, pictures and words. */
public final class PicturesTest {
    public static void main(String[] args) {
        raw();
        whole();
        wholeAtEdges();
        edits();
        noBoundsBetween();
        flip();
        mend();
        mendEdges();
        pictureRefused();
        word();
        Checks.end();
    }

    private static void raw() {
        Camera camera = Cameras.withHot(6, 1);
        Checks.same("raw", camera.raw(0, 6, 1), 255);
        Checks.same("raw, turned", camera.raw(0, 1, 6), 0);
        camera.edit(0, 3, 2);
        camera.map(6, 1, true);
        camera.edit(0, 5, 0);
        Checks.same("raw behind edits", camera.raw(0, 6, 1), 255);
        Camera none = new Camera();
        Checks.refused(none, "raw of none", Cameras.INDEX, c -> c.raw(0, 0, 0));
        for (int wrong : new int[] {-1, 8, Integer.MIN_VALUE, Integer.MAX_VALUE}) {
            Checks.refused(camera, "raw frame " + wrong, Cameras.INDEX, c -> c.raw(wrong, 0, 0));
            Checks.refused(camera, "raw x " + wrong, Cameras.INDEX, c -> c.raw(0, wrong, 0));
            Checks.refused(camera, "raw y " + wrong, Cameras.INDEX, c -> c.raw(0, 0, wrong));
        }
        Checks.refused(camera, "raw frame 1", Cameras.INDEX, c -> c.raw(1, 0, 0));
        Checks.keeps(camera, "raw", c -> c.raw(0, 1, 1));
    }

    private static void whole() {
        Camera camera = Cameras.withHot(2, 2);
        Checks.same("its own", camera.picture(0, 2, 2, 0), 255.0);
        Checks.same("in its row", camera.picture(0, 3, 2, 0), 127.5);
        Checks.same("in its column", camera.picture(0, 2, 1, 0), 127.5);
        Checks.same("across", camera.picture(0, 3, 3, 0), 63.75);
        Checks.same("across, above", camera.picture(0, 1, 1, 0), 63.75);
        Checks.same("another red place has its own", camera.picture(0, 4, 2, 0), 0.0);
        Checks.same("its green", camera.picture(0, 2, 2, 1), 0.0);
        Checks.same("its blue", camera.picture(0, 2, 2, 2), 0.0);
        Camera blue = Cameras.withHot(3, 3);
        Checks.same("blue, its own", blue.picture(0, 3, 3, 2), 255.0);
        Checks.same("blue across", blue.picture(0, 4, 4, 2), 63.75);
        Checks.same("blue in its row", blue.picture(0, 2, 3, 2), 127.5);
        Camera green = Cameras.withHot(3, 2);
        Checks.same("green, its own", green.picture(0, 3, 2, 1), 255.0);
        Checks.same("green beside", green.picture(0, 2, 2, 1), 63.75);
        Checks.same("green below", green.picture(0, 3, 3, 1), 63.75);
        Checks.same("green across has its own", green.picture(0, 4, 3, 1), 0.0);
    }

    private static void wholeAtEdges() {
        Camera camera = Cameras.withHot(1, 0, 7, 7);
        Checks.same("green in a corner", camera.picture(0, 0, 0, 1), 127.5);
        Checks.same("green at an edge, of three", camera.picture(0, 2, 0, 1), 85.0);
        Checks.same("blue at an edge, of two", camera.picture(0, 7, 6, 2), 127.5);
        Checks.same("red in a corner, of one", camera.picture(0, 7, 7, 0), 0.0);
        Camera red = Cameras.withHot(6, 6, 0, 0);
        Checks.same("red in a corner, of one", red.picture(0, 7, 7, 0), 255.0);
        Checks.same("red at an edge, of one", red.picture(0, 7, 6, 0), 255.0);
        Checks.same("red at an edge, of two", red.picture(0, 7, 5, 0), 127.5);
        // The mean of 0 and 255 is 127, and a third of that is no whole float.
        Cameras.takeHot(camera);
        camera.merge(3, 255);
        Checks.same("a third, in float", camera.picture(2, 2, 0, 1), (double) (127f / 3));
    }

    private static double red22(int... edits) {
        Camera camera = Cameras.withHot(2, 2);
        for (int k = 0; k < edits.length; k += 2) {
            camera.edit(0, edits[k], edits[k + 1]);
        }
        return camera.picture(0, 3, 2, 0);
    }

    private static void edits() {
        Checks.same("black 0", red22(0, 0), 127.5);
        Checks.same("black 64", red22(0, 64), 63.5);
        Checks.same("black thrice", red22(0, 64, 0, 64, 0, 64), 0.0);
        Checks.same("black below 0, turned", red22(0, 64, 0, 64, 3, 2), 255.0);
        Checks.same("warm 1", red22(1, 1), 31.875);
        Checks.same("warm 4", red22(1, 4), 127.5);
        Checks.same("warm 7", red22(1, 7), 223.125);
        Checks.same("warm 16", red22(1, 16), 255.0);
        Checks.same("cool leaves red", red22(2, 1), 127.5);
        Checks.same("warm to 255.125", red22(0, 49, 1, 13), 255.0);
        Checks.same("tone 0", red22(3, 0), 63.75);
        Checks.same("tone 1", red22(3, 1), 255.0);
        Checks.same("tone 2", red22(3, 2), 127.5);
        Checks.same("tone 2 of warm", red22(1, 1, 3, 2), 223.125);
        Checks.same("mend without a map", red22(5, 0), 127.5);
        Checks.same("in their order", red22(0, 27, 3, 0, 0, 50), 0.25);
        Camera camera = Cameras.withHot(3, 3, 3, 2);
        camera.edit(0, 2, 2);
        Checks.same("cool 2", camera.picture(0, 3, 3, 2), 127.5);
        Checks.same("cool leaves green", camera.picture(0, 3, 2, 1), 255.0);
        camera.edit(0, 1, 2);
        Checks.same("warm leaves blue", camera.picture(0, 3, 3, 2), 127.5);
        Checks.same("warm leaves green", camera.picture(0, 3, 2, 1), 255.0);
        camera.edit(0, 0, 5);
        Checks.same("black of blue", camera.picture(0, 3, 3, 2), 122.5);
        Checks.same("black of green", camera.picture(0, 3, 2, 1), 250.0);
        camera.edit(0, 3, 2);
        Checks.same("tone of all", camera.picture(0, 3, 3, 2), 132.5);
        Checks.same("tone of dark ones", camera.picture(0, 7, 7, 0), 255.0);
    }

    private static void noBoundsBetween() {
        Checks.same("twice, then half", red22(3, 1, 3, 1, 3, 0, 3, 0), 127.5);
        Checks.same("below 0, then back", red22(1, 16, 3, 2, 3, 0), 0.0);
        // 510, -255, -127.5 and 382.5.
        Checks.same("above 255 by two turns", red22(1, 16, 3, 2, 3, 0, 3, 2), 255.0);
        // 510, -255 and 510 again.
        Checks.same("two turns", red22(1, 16, 3, 2, 3, 2, 1, 1), 127.5);
        Checks.same("black ends below 0", red22(1, 16, 3, 2, 0, 0, 3, 2), 255.0);
    }

    private static void flip() {
        Camera camera = Cameras.withHot(2, 2);
        camera.edit(0, 4, 0);
        Checks.same("flipped", camera.picture(0, 5, 2, 0), 255.0);
        Checks.same("flipped, beside", camera.picture(0, 4, 2, 0), 127.5);
        Checks.same("flipped, across", camera.picture(0, 6, 3, 0), 63.75);
        Checks.same("no more", camera.picture(0, 2, 2, 0), 0.0);
        Checks.same("rows stay", camera.picture(0, 5, 5, 0), 0.0);
        Checks.same("raw stays", camera.raw(0, 2, 2), 255);
        camera.edit(0, 4, 0);
        Checks.same("flipped twice", camera.picture(0, 2, 2, 0), 255.0);
        Camera edge = Cameras.withHot(7, 7);
        edge.edit(0, 4, 0);
        Checks.same("flipped from edge to edge", edge.picture(0, 0, 7, 2), 255.0);
        Camera first = Cameras.withHot(0, 0);
        first.edit(0, 0, 5);
        Checks.same("black in the first place", first.picture(0, 0, 0, 0), 250.0);
        first.edit(0, 4, 0);
        Checks.same("flipped in the first row", first.picture(0, 7, 0, 0), 250.0);
    }

    private static void mend() {
        Camera camera = Cameras.withHot(4, 2, 1, 2, 2, 3);
        camera.map(2, 2, true);
        Checks.same("mapped, without a mend", camera.picture(0, 2, 2, 0), 0.0);
        camera.edit(0, 5, 0);
        Checks.same("255 / 4", camera.picture(0, 2, 2, 0), 63.0);
        Checks.same("not mapped, it stays", camera.picture(0, 4, 2, 0), 255.0);
        Checks.same("colours behind the mend", camera.picture(0, 3, 2, 0), 159.0);
        camera.map(2, 0, true);
        Checks.same("255 / 3", camera.picture(0, 2, 2, 0), 85.0);
        camera.map(2, 4, true);
        Checks.same("255 / 2, whole", camera.picture(0, 2, 2, 0), 127.0);
        camera.map(0, 2, true);
        Checks.same("255 alone", camera.picture(0, 2, 2, 0), 255.0);
        camera.map(4, 2, true);
        Checks.same("none left, it stays", camera.picture(0, 2, 2, 0), 0.0);
        Checks.same("a hot one, mapped", camera.picture(0, 4, 2, 0), 0.0);
        camera.map(2, 2, false);
        Checks.same("not mapped any more", camera.picture(0, 2, 2, 0), 0.0);
        Checks.same("a good one, mapped for nothing", camera.picture(0, 0, 2, 0), 0.0);
        camera.map(4, 2, false);
        camera.map(2, 2, true);
        camera.undo(0);
        Checks.same("mend taken back", camera.picture(0, 2, 2, 0), 0.0);
        camera.edit(0, 4, 0);
        camera.edit(0, 3, 2);
        camera.edit(0, 5, 0);
        Checks.same("a mend behind others goes first", camera.picture(0, 5, 2, 0), 0.0);
        camera.edit(0, 5, 0);
        Checks.same("two mends are as one", camera.picture(0, 5, 2, 0), 0.0);
    }

    private static void mendEdges() {
        Camera camera = Cameras.withHot(2, 0, 5, 7);
        camera.edit(0, 5, 0);
        camera.map(0, 0, true);
        Checks.same("red corner, of two", camera.picture(0, 0, 0, 0), 127.0);
        camera.map(7, 7, true);
        Checks.same("blue corner, of two", camera.picture(0, 7, 7, 2), 127.0);
        camera.map(1, 7, true);
        Checks.same("one row down is another row", camera.picture(0, 1, 7, 2), 0.0);
        camera.map(0, 2, true);
        Checks.same("red at the edge", camera.picture(0, 0, 2, 0), 0.0);
        Camera green = Cameras.withHot(2, 1, 3, 0, 4, 1, 3, 4);
        green.edit(0, 5, 0);
        green.map(3, 2, true);
        // Of (1, 2), (5, 2), (3, 0) and (3, 4), not of the greens across.
        Checks.same("green, two away alone", green.picture(0, 3, 2, 1), 127.0);
    }

    private static void pictureRefused() {
        Camera camera = Cameras.withHot(1, 1);
        Camera none = new Camera();
        Checks.refused(none, "picture of none", Cameras.INDEX, c -> c.picture(0, 0, 0, 3));
        Checks.refused(none, "word of none", Cameras.INDEX, c -> c.word(0));
        for (int wrong : new int[] {-1, 8, Integer.MIN_VALUE, Integer.MAX_VALUE}) {
            for (int colour : new int[] {0, 3}) {
                Checks.refused(camera, "picture frame", Cameras.INDEX, c -> c.picture(wrong, 0, 0, colour));
                Checks.refused(camera, "picture x", Cameras.INDEX, c -> c.picture(0, wrong, 0, colour));
                Checks.refused(camera, "picture y", Cameras.INDEX, c -> c.picture(0, 0, wrong, colour));
            }
            Checks.refused(camera, "word frame", Cameras.INDEX, c -> c.word(wrong));
        }
        Checks.refused(camera, "picture frame 1", Cameras.INDEX, c -> c.picture(1, 0, 0, 0));
        Checks.refused(camera, "word frame 1", Cameras.INDEX, c -> c.word(1));
        for (int wrong : new int[] {-1, 3, Integer.MIN_VALUE, Integer.MAX_VALUE}) {
            Checks.refused(camera, "picture colour", Cameras.ARGUMENT, c -> c.picture(0, 0, 0, wrong));
        }
        Checks.keeps(camera, "picture", c -> c.picture(0, 1, 1, 2));
        Checks.keeps(camera, "word", c -> c.word(0));
    }

    private static int wordOf(int[] tones) {
        int w = 7;
        for (int tone : tones) {
            w = w * 31 + tone;
        }
        return w;
    }

    private static void word() {
        int[] tones = new int[192];
        Checks.same("dark word", Cameras.withHot().word(0), wordOf(tones));
        Camera camera = Cameras.withHot(7, 7);
        tones[3 * (8 * 7 + 7) + 2] = 255;
        tones[3 * (8 * 7 + 6) + 2] = 127;
        tones[3 * (8 * 6 + 7) + 2] = 127;
        tones[3 * (8 * 6 + 6) + 2] = 63;
        Checks.same("word", camera.word(0), wordOf(tones));
        camera.edit(0, 3, 2);
        java.util.Arrays.fill(tones, 255);
        tones[3 * (8 * 7 + 7) + 2] = 0;
        tones[3 * (8 * 7 + 6) + 2] = 127;
        tones[3 * (8 * 6 + 7) + 2] = 127;
        tones[3 * (8 * 6 + 6) + 2] = 191;
        Checks.same("word behind an edit", camera.word(0), wordOf(tones));
        camera.edit(0, 3, 1);
        camera.edit(0, 3, 2);
        // 510, 255 and 382.5 turned are below 0; 0 turned is 255.
        java.util.Arrays.fill(tones, 0);
        tones[3 * (8 * 7 + 7) + 2] = 255;
        Checks.same("word within the bounds below", camera.word(0), wordOf(tones));
        camera.edit(0, 3, 1);
        Checks.same("word within the bounds above", camera.word(0), wordOf(tones));
    }
}
