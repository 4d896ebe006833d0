/** Promises 22 to 25: sentence by sentence. */
final class WouldBeEdges {
    private static final Class<?> ARGUMENT = Cameras.ARGUMENT;
    private static final int GREY = 1 + 256 + 65536;

    private WouldBeEdges() {
    }

    static void tell(Document document) {
        String at = "Promise 22: wouldClip";
        document.says(at, "Returns how many PLACES would be CLIPPED in a FRAME that was taken so now", WouldBeEdges::clipsNow);
        document.says(at, "(also if there was no room for it)", WouldBeEdges::clipsWithoutRoom);
        document.says(at, "Throws `IllegalArgumentException` if time is not 1 to 64", WouldBeEdges::clipTimes);
        document.says(at, "or gain not 1 to 8", WouldBeEdges::clipGains);
        at = "Promise 23: bestTake";
        document.says(at, "Returns 16 times TIME, and GAIN", WouldBeEdges::takeEnds);
        document.says(at, "of a FRAME taken now (likewise)", WouldBeEdges::takeNow);
        document.says(at, "whose METER would be nearest to the target", WouldBeEdges::takeNearest);
        document.says(at, "(by Math.abs of the difference of doubles)", WouldBeEdges::takeOnBothSides);
        document.says(at, "TIMES being 1, 2, 4, 8, 16, 32 and 64", WouldBeEdges::takeTimes);
        document.says(at, "of several that of the smallest GAIN", WouldBeEdges::takeSmallestGain);
        document.says(at, "then of the smallest TIME", WouldBeEdges::takeSmallestTime);
        document.says(at, "Throws `IllegalArgumentException` if target is not 0 to 255", WouldBeEdges::takeTargets);
        at = "Promise 24: bestWhite";
        document.says(at, "- `kind`: 1 WARM or 2 COOL", WouldBeEdges::whiteKinds);
        document.says(at, "Returns the number of such an EDIT", WouldBeEdges::whiteEnds);
        document.says(at, "told now", WouldBeEdges::whiteNow);
        document.says(at, "(also if there was no room for it)", WouldBeEdges::whiteWithoutRoom);
        document.says(at, "behind which the sum of all GREEN TONES and that of all RED (BLUE) ones of its PICTURE",
            WouldBeEdges::whiteTones);
        document.says(at, "would be nearest to each other", WouldBeEdges::whiteNearest);
        document.says(at, "of several the smallest", WouldBeEdges::whiteSmallest);
        document.says(at, "Throws `IndexOutOfBoundsException` if there is no such FRAME", WouldBeEdges::whiteFrames);
        document.says(at, "Throws `IllegalArgumentException` if kind is not 1 or 2", WouldBeEdges::whiteOtherKinds);
        at = "Promise 25: digest";
        document.says(at, "A number d starts with 9602", WouldBeEdges::digestStart);
        document.says(at, "then d becomes d * 31 + v, which wraps around as a 64-bit integer", WouldBeEdges::digestWraps);
        document.says(at, "for each v in this order: many() of 0 to 6", WouldBeEdges::digestMany);
        document.says(at, "FRAME by FRAME ofFrame() of 0 to 8, word()", WouldBeEdges::digestFrames);
        document.says(at, "METER times 32, cut to a whole number", WouldBeEdges::digestMeter);
        document.says(at, "RAW y by y, x by x", WouldBeEdges::digestRaw);
        document.says(at, "FILE by FILE ofFile() of 0 to 3", WouldBeEdges::digestFiles);
        document.says(at, "wouldClip() of 16 and 1", WouldBeEdges::digestClip);
    }

    private static void clipsNow() {
        Camera camera = new Camera();
        Checks.same("a dark scene", camera.wouldClip(64, 8), 0);
        camera.spoil(0, 0, 2);
        Checks.same("a hot one", camera.wouldClip(1, 1), 1);
        camera.paint(0, 0, 7, 7, 0xffffff);
        Checks.same("by the least", camera.wouldClip(1, 1), 1);
        Checks.same("by the greatest", camera.wouldClip(64, 8), 64);
        camera.spoil(1, 0, 1);
        Checks.same("but a dead one", camera.wouldClip(64, 8), 63);
        camera.paint(0, 0, 7, 7, 239 * GREY);
        camera.map(7, 7, true);
        int[][] ways = {{1, 1}, {15, 1}, {16, 1}, {17, 1}, {64, 1}, {1, 8}, {2, 8}, {64, 8}, {9, 2}};
        for (int frames = 0; frames < 5; frames++) {
            camera.take(3, 3);
            camera.lamp(4 + frames % 2, 4, 5 - frames % 2);
            for (int[] w : ways) {
                Camera taking = camera.copy();
                int frame = taking.take(w[0], w[1]);
                Checks.same("as taken by " + w[0] + " and " + w[1], camera.wouldClip(w[0], w[1]), taking.ofFrame(frame, 3));
            }
        }
        Checks.keeps(camera, "wouldClip", c -> c.wouldClip(64, 8));
    }

    private static void clipsWithoutRoom() {
        Camera camera = Cameras.full();
        Checks.same("no room, dark", camera.wouldClip(64, 8), 0);
        camera.paint(0, 0, 7, 7, 0xffffff);
        camera.spoil(7, 7, 1);
        Checks.same("no room, bright", camera.wouldClip(64, 8), 63);
        Checks.same("no room, by the least", camera.wouldClip(1, 1), 0);
        Checks.keeps(camera, "wouldClip without room", c -> c.wouldClip(16, 1));
        // 251 and the draw modulo 8, of draws 385 to 448.
        camera.paint(0, 0, 7, 7, 239 * GREY);
        int due = 0;
        for (int place = 0; place < 63; place++) {
            due += Cameras.drawBehind(6 * 64 + place + 1) % 8 >= 4 ? 1 : 0;
        }
        Checks.same("no room, by the draws", camera.wouldClip(16, 1), due);
    }

    private static void clipTimes() {
        Checks.range(new Camera(), "time", 1, 64, ARGUMENT, (c, v) -> c.wouldClip(v, 1));
        Checks.range(Cameras.full(), "time, without room", 1, 64, ARGUMENT, (c, v) -> c.wouldClip(v, 8));
    }

    private static void clipGains() {
        Checks.range(new Camera(), "gain", 1, 8, ARGUMENT, (c, v) -> c.wouldClip(1, v));
        Checks.range(Cameras.full(), "gain, without room", 1, 8, ARGUMENT, (c, v) -> c.wouldClip(64, v));
    }

    /** One green place alone is not dead: RAW there is 19 and the light in it times the gain, METER a 32nd of that. */
    private static Camera oneGreen(int colour, int quarters) {
        Camera camera = new Camera();
        Cameras.spoilAll(camera, 1);
        camera.spoil(1, 0, 0);
        camera.paint(1, 0, 1, 0, 256 * colour);
        camera.lamp(4, quarters, 4);
        return camera;
    }

    private static void takeEnds() {
        Checks.same("the least time and gain", oneGreen(255, 16).bestTake(0), 16 + 1);
        // 19 + 4 * 8 is 51, the greatest there is.
        Checks.same("the greatest time and gain", oneGreen(1, 4).bestTake(2), 16 * 64 + 8);
        Checks.same("the greatest for 255", oneGreen(1, 4).bestTake(255), 16 * 64 + 8);
        Checks.same("the least time, 19 + 15 * 3 is just 64", oneGreen(240, 4).bestTake(2), 16 + 3);
        Checks.same("the greatest gain, 19 + 1 * 8", oneGreen(4, 1).bestTake(255), 16 * 64 + 8);
        Checks.same("the least gain, 19 + 13 is just 32", oneGreen(13, 4).bestTake(1), 16 * 16 + 1);
    }

    private static void takeNow() {
        Camera camera = oneGreen(13, 4);
        int due = 16 * 16 + 1;
        Checks.same("at first", camera.bestTake(1), due);
        camera.paint(1, 0, 1, 0, 256 * 26);
        Checks.same("by the scene now", camera.bestTake(1), 16 * 8 + 1);
        camera.lamp(4, 2, 4);
        Checks.same("by the lamp now", camera.bestTake(1), due);
        for (int frame = 0; frame < 6; frame++) {
            camera.take(1, 1);
        }
        // The draw there is 29 now, so that the dark gives 17: 15 more is 3 (of 3.25, by a time of 4) times 5.
        Checks.same("by the draw now, without room", camera.bestTake(1), 16 * 4 + 5);
        Checks.keeps(camera, "bestTake without room", c -> c.bestTake(1));
        camera.spoil(1, 0, 1);
        Checks.same("by a dead one now", camera.bestTake(1), 16 + 1);
    }

    private static void takeNearest() {
        Camera camera = oneGreen(16, 4);
        // 19 and TIME times GAIN: 32 by 13 at best, so by 12 (4 * 3); 64 by 45, so by 48 (16 * 3).
        Checks.same("one off", camera.bestTake(1), 16 * 4 + 3);
        Checks.same("three off", camera.bestTake(2), 16 * 16 + 3);
        Checks.same("far off, below", camera.bestTake(0), 16 + 1);
        // 19 + 64 * 3 is 211, and 19 + 64 * 4 is held at 255.
        Checks.same("far off, above", camera.bestTake(255), 16 * 64 + 4);
        Camera greens = new Camera();
        greens.paint(0, 0, 7, 7, 32 * GREY - 32 * 256);
        Checks.same("greens alone count", greens.bestTake(200), 16 + 1);
    }

    private static void takeOnBothSides() {
        // 19 + 30 and 19 + 60: 15 below 64, and 15 above.
        Checks.same("as far below as above", oneGreen(120, 16).bestTake(2), 16 + 1);
        // 19 + 14 is one above 32, as is 19 + 7 * 2; 19 + 3 * 4 is one below.
        Checks.same("as far above as below", oneGreen(7, 4).bestTake(1), 16 * 32 + 1);
        // 19 + 12 by 4 * 3, and 19 + 14 by 2 * 7: one off each.
        Checks.same("as far below as above, by a greater gain", oneGreen(16, 4).bestTake(1), 16 * 4 + 3);
    }

    private static void takeTimes() {
        // Each of the seven: 19 + 13, by a colour that gives 13 at that time, and by gain 1.
        int[][] ways = {{52, 16, 1}, {104, 4, 2}, {52, 4, 4}, {26, 4, 8}, {13, 4, 16}, {13, 2, 32}, {13, 1, 64}};
        for (int[] w : ways) {
            Checks.same("time " + w[2], oneGreen(w[0], w[1]).bestTake(1), 16 * w[2] + 1);
        }
        for (int colour : new int[] {1, 3, 7, 18, 72, 120, 255}) {
            for (int target = 0; target <= 8; target++) {
                Checks.same("colour " + colour + " for " + target, oneGreen(colour, 4).bestTake(target), bestOf(colour, target));
            }
        }
    }

    /** The best one, told in another way: how far off it is, its gain and its time as one number. */
    private static int bestOf(int colour, int target) {
        long best = Long.MAX_VALUE;
        for (int k = 0; k < 7; k++) {
            for (int gain = 1; gain <= 8; gain++) {
                int well = Math.min(255, colour * (1 << k) / 16);
                long off = Math.abs(Math.min(255, 19 + well * gain) - 32 * target);
                best = Math.min(best, off * 10000 + gain * 1000 + (1 << k));
            }
        }
        return (int) (16 * (best % 1000) + best / 1000 % 10);
    }

    private static void takeSmallestGain() {
        Checks.same("all the same, dark", oneGreen(0, 4).bestTake(9), 16 + 1);
        // 12 by 4 * 3 and by 2 * 6, 14 by 2 * 7: all one off.
        Checks.same("before a smaller time", oneGreen(16, 4).bestTake(1), 16 * 4 + 3);
        Checks.same("before a time of an eighth", oneGreen(7, 4).bestTake(1), 16 * 32 + 1);
        // 16 more than in the dark is 2 times 8 * 1, 4 * 2, 2 * 4 or 1 * 8.
        Camera camera = new Camera();
        camera.paint(0, 0, 7, 7, 32 * GREY);
        Camera dark = new Camera();
        dark.take(1, 1);
        int near = (int) (dark.meter(0) + 16.5);
        Checks.same("of four", camera.bestTake(near), 16 * 8 + 1);
    }

    private static void takeSmallestTime() {
        Checks.same("all the same, dark", oneGreen(0, 4).bestTake(0), 16 + 1);
        Checks.same("as far below as above, by one gain", oneGreen(120, 16).bestTake(2), 16 + 1);
        Camera hot = new Camera();
        Cameras.spoilAll(hot, 2);
        Checks.same("all the same, hot", hot.bestTake(100), 16 + 1);
        Camera bright = new Camera();
        bright.paint(0, 0, 7, 7, 0xffffff);
        // All is clipped from a time of 16 on.
        Checks.same("clipped by several", bright.bestTake(255), 16 * 16 + 1);
        // A light below 1 up to a time of 8.
        Checks.same("dark by several", oneGreen(1, 4).bestTake(0), 16 + 1);
    }

    private static void takeTargets() {
        for (Camera camera : new Camera[] {new Camera(), Cameras.rich(), Cameras.full()}) {
            Checks.range(camera, "target", 0, 255, ARGUMENT, (c, v) -> c.bestTake(v));
        }
    }

    private static void whiteKinds() {
        // Of 255, 127.5 and 63.75.
        Camera camera = new Camera();
        Cameras.takeColours(camera, true, true, true);
        camera.edit(0, 1, 2);
        camera.edit(0, 2, 1);
        Checks.same("warm, by red", camera.bestWhite(0, 1), 8);
        Checks.same("cool, by blue", camera.bestWhite(0, 2), 16);
    }

    private static void whiteEnds() {
        Camera greens = new Camera();
        Cameras.takeColours(greens, true, true, true);
        greens.edit(0, 1, 1);
        greens.edit(0, 2, 1);
        // 63.75 of red and of blue by 16 / 4 is 255, by 15 / 4 239.
        Checks.same("the greatest, warm", greens.bestWhite(0, 1), 16);
        Checks.same("the greatest, cool", greens.bestWhite(0, 2), 16);
        greens.edit(0, 1, 1);
        greens.edit(0, 2, 1);
        Checks.same("the greatest, though it is far off, warm", greens.bestWhite(0, 1), 16);
        Checks.same("the greatest, though it is far off, cool", greens.bestWhite(0, 2), 16);
        Camera others = new Camera();
        Cameras.takeColours(others, true, false, true);
        Checks.same("the least, warm", others.bestWhite(0, 1), 1);
        Checks.same("the least, cool", others.bestWhite(0, 2), 1);
    }

    private static void whiteNow() {
        Camera camera = new Camera();
        Cameras.takeColours(camera, true, true, true);
        Checks.same("without edits", camera.bestWhite(0, 1), 4);
        camera.edit(0, 1, 8);
        Checks.same("behind twice as much red", camera.bestWhite(0, 1), 2);
        camera.edit(0, 1, 1);
        Checks.same("behind half as much", camera.bestWhite(0, 1), 8);
        camera.undo(0);
        camera.undo(0);
        // All is 0 then, by any number.
        camera.edit(0, 3, 2);
        Checks.same("behind a tone", camera.bestWhite(0, 1), 1);
        Camera mapped = Cameras.withHot(0, 0, 7, 0);
        mapped.edit(0, 5, 0);
        Checks.same("a hot red", mapped.bestWhite(0, 1), 3);
        mapped.map(0, 0, true);
        Checks.same("mapped now, none is red", mapped.bestWhite(0, 1), 1);
        Checks.keeps(mapped, "bestWhite", c -> c.bestWhite(0, 2));
    }

    private static void whiteWithoutRoom() {
        Camera camera = new Camera();
        Cameras.takeColours(camera, true, true, true);
        int[][] edits = {{1, 8}, {4, 0}, {2, 2}, {4, 0}, {5, 0}, {0, 0}};
        for (int[] e : edits) {
            camera.edit(0, e[0], e[1]);
        }
        Checks.same("the seventh, warm", camera.bestWhite(0, 1), 2);
        Checks.same("the seventh, cool", camera.bestWhite(0, 2), 8);
        Checks.keeps(camera, "warm without room", c -> c.bestWhite(0, 1));
        Checks.keeps(camera, "cool without room", c -> c.bestWhite(0, 2));
        Checks.refused(camera, "nor can it be told", Cameras.STATE, c -> c.edit(0, 1, 2));
    }

    private static void whiteTones() {
        // Green 126, 42 and 42. By 1: 62, 31, 31 and 15, by 2: 124, 62, 62 and 31; uncut, 1 would be nearer.
        Checks.same("red tones are cut", Cameras.withRaw(0, 0, 249, 7, 0, 126).bestWhite(0, 1), 2);
        Checks.same("blue tones are cut", Cameras.withRaw(7, 7, 249, 0, 7, 126).bestWhite(0, 2), 2);
        // Green 122, 40 and 40 (of 40.67 twice): 202 is 67 above 135, and 68 below 270.
        Checks.same("green tones are cut, red", Cameras.withRaw(0, 0, 240, 7, 0, 122).bestWhite(0, 1), 1);
        Checks.same("green tones are cut, blue", Cameras.withRaw(7, 7, 240, 0, 7, 122).bestWhite(0, 2), 1);
        // 1020 by 1 / 4: held at 255 neither ahead of the edit nor behind it.
        Camera held = new Camera();
        Cameras.takeColours(held, true, true, true);
        held.edit(0, 1, 16);
        Checks.same("held at 255, by 1", held.bestWhite(0, 1), 1);
        // 510 and then half of it, and half of a green of 255.
        Camera twice = new Camera();
        Cameras.takeColours(twice, true, true, true);
        twice.edit(0, 1, 8);
        twice.edit(0, 3, 0);
        Checks.same("not held ahead of it", twice.bestWhite(0, 1), 2);
        twice.edit(0, 3, 2);
        Checks.same("a red of 0 is as far by any number", twice.bestWhite(0, 1), 1);
    }

    /** The nearest of a red in the first corner (or a blue in the last), whose parts are a half, a half and a quarter. */
    private static int sumNearest(int raw, int greens) {
        int best = 0;
        int nearest = Integer.MAX_VALUE;
        for (int n = 16; n >= 1; n--) {
            int sum = Math.min(255, raw * n / 4) + 2 * Math.min(255, raw * n / 8) + Math.min(255, raw * n / 16);
            if (Math.abs(sum - greens) <= nearest) {
                nearest = Math.abs(sum - greens);
                best = n;
            }
        }
        return best;
    }

    private static void whiteNearest() {
        for (int raw : new int[] {163, 171, 178, 30, 254}) {
            Checks.same("red " + raw, Cameras.withRaw(0, 0, raw, 7, 0, 255).bestWhite(0, 1), sumNearest(raw, 425));
            Checks.same("blue " + raw, Cameras.withRaw(7, 7, raw, 0, 7, 255).bestWhite(0, 2), sumNearest(raw, 425));
        }
    }

    private static void whiteSmallest() {
        // 378 by 4 and 472 by 5: each 47 from 425.
        Checks.same("as far below as above, red", Cameras.withRaw(0, 0, 168, 7, 0, 255).bestWhite(0, 1), 4);
        Checks.same("as far below as above, blue", Cameras.withRaw(7, 7, 168, 0, 7, 255).bestWhite(0, 2), 4);
        Checks.same("no red and no green", Cameras.withHot(1, 1).bestWhite(0, 1), 1);
        Checks.same("no red", Cameras.withHot(1, 0).bestWhite(0, 1), 1);
        Checks.same("no blue", Cameras.withHot(1, 0).bestWhite(0, 2), 1);
        Camera camera = new Camera();
        Cameras.takeColours(camera, true, true, true);
        Checks.same("255 by 4 to 16", camera.bestWhite(0, 1), 4);
    }

    private static void whiteFrames() {
        Checks.frames("warm", (c, v) -> c.bestWhite(v, 1));
        Checks.frames("cool", (c, v) -> c.bestWhite(v, 2));
    }

    private static void whiteOtherKinds() {
        Checks.range(Cameras.rich(), "kind", 1, 2, ARGUMENT, (c, v) -> c.bestWhite(0, v));
        Checks.range(Cameras.crowded(), "kind without room", 1, 2, ARGUMENT, (c, v) -> c.bestWhite(5, v));
        for (int kind : new int[] {0, 3, 4, 5}) {
            Checks.refused(Cameras.rich(), "kind " + kind, ARGUMENT, c -> c.bestWhite(1, kind));
        }
    }

    /** The digest told a second time, by what a camera answers: each copy has calls enough for one frame. */
    private static java.math.BigInteger digestOf(Camera camera) {
        java.math.BigInteger d = java.math.BigInteger.valueOf(9602);
        Camera asked = camera.copy();
        for (int what = 0; what <= 6; what++) {
            d = next(d, asked.many(what));
        }
        int frames = asked.many(0);
        int files = asked.many(1);
        for (int frame = 0; frame < frames; frame++) {
            Camera one = camera.copy();
            for (int what = 0; what <= 8; what++) {
                d = next(d, one.ofFrame(frame, what));
            }
            d = next(d, one.word(frame));
            d = next(d, (long) Math.floor(one.meter(frame) * 32.0));
            for (int place = 0; place < 64; place++) {
                d = next(d, one.raw(frame, place % 8, place / 8));
            }
        }
        for (int file = 0; file < files; file++) {
            for (int what = 0; what <= 3; what++) {
                d = next(d, asked.ofFile(file, what));
            }
        }
        return next(d, asked.wouldClip(16, 1));
    }

    private static java.math.BigInteger next(java.math.BigInteger d, long v) {
        return d.multiply(java.math.BigInteger.valueOf(31)).add(java.math.BigInteger.valueOf(v));
    }

    private static void asTold(String what, Camera camera) {
        Checks.same(what, camera.copy().digest(), digestOf(camera).longValue());
        Checks.keeps(camera, what, Camera::digest);
    }

    private static void digestStart() {
        // 9602 times 31, eight times: nothing but zeroes.
        Checks.same("of a new one", new Camera().digest(), 8189459741508482L);
        asTold("of a new one, as told", new Camera());
    }

    private static void digestWraps() {
        Camera camera = Cameras.crowded();
        java.math.BigInteger d = digestOf(camera);
        Checks.same("more than 64 bits", d.bitLength() > 64, true);
        Checks.same("wrapped", camera.digest(), d.longValue());
        Camera one = new Camera();
        one.take(1, 1);
        Checks.same("below 0", one.digest(), -14948601514895608L);
        Checks.same("below 0, as told", digestOf(one).longValue(), -14948601514895608L);
    }

    private static void digestMany() {
        Camera camera = new Camera();
        camera.map(3, 3, true);
        camera.map(4, 3, true);
        camera.map(5, 3, true);
        camera.spoil(3, 3, 1);
        camera.spoil(4, 4, 1);
        // 0, 0, 3, 0, 0, 2 and 1, then 0 clipped.
        long d = 9602L * 31 * 31 * 31 + 3;
        d = ((d * 31 * 31 * 31 + 2) * 31 + 1) * 31;
        Checks.same("by hand", camera.digest(), d);
        asTold("as told", camera);
    }

    private static void digestFrames() {
        Camera camera = new Camera();
        asTold("no frame", camera);
        for (int frame = 0; frame < 6; frame++) {
            camera.take(1 + frame, 8 - frame);
            camera.edit(frame, 3, frame % 3);
            asTold("frames up to " + frame, camera);
        }
    }

    private static void digestMeter() {
        // 20 + 21 + 22 of greens: METER is 1.96875, and 63 times a 32nd.
        Camera camera = Cameras.withRaw(1, 0, 20, 7, 2, 21, 6, 7, 22);
        Checks.same("the meter", camera.meter(0), 1.96875);
        asTold("as told", camera);
        asTold("of the darkest", Cameras.withHot());
        Camera bright = new Camera();
        Cameras.takeColours(bright, true, true, true);
        asTold("of the brightest", bright);
    }

    private static void digestRaw() {
        Camera camera = Cameras.withHot(0, 0);
        Camera other = Cameras.withHot(7, 7);
        asTold("the first place", camera);
        asTold("the last place", other);
        asTold("(1, 2)", Cameras.withHot(1, 2));
        asTold("(2, 1)", Cameras.withHot(2, 1));
        Checks.same("another digest by another place", Cameras.withHot(1, 2).digest() == Cameras.withHot(2, 1).digest(), false);
    }

    private static void digestFiles() {
        Camera camera = Cameras.rich();
        for (int file = 3; file < 6; file++) {
            camera.save(file % 3);
            camera.undo(file % 3);
            asTold("files up to " + file, camera);
        }
    }

    private static void digestClip() {
        Camera camera = new Camera();
        camera.paint(0, 0, 7, 7, 239 * GREY);
        // 251 and the draw modulo 8: by a time of 17 and by a gain of 2 more are clipped, by 15 fewer.
        int due = camera.wouldClip(16, 1);
        Checks.same("others by a time of 15", camera.wouldClip(15, 1) == due, false);
        Checks.same("others by a time of 17", camera.wouldClip(17, 1) == due, false);
        Checks.same("others by a gain of 2", camera.wouldClip(16, 2) == due, false);
        Checks.same("by hand", camera.digest(), 8189459741508482L + due);
        for (int frame = 0; frame < 6; frame++) {
            camera.take(16, 1);
        }
        asTold("without room", camera);
    }
}
