/** Promises 11 to 25: what each call answers, and what each number that it takes is. */
final class AskedRows {
    private static final int GREY = 1 + 256 + 65536;
    private static final String FRAME = "- `frame`: a FRAME";
    private static final String THAT = "Returns that.";

    private AskedRows() {
    }

    static void tell(Document document) {
        tellPictures(document);
        tellFrames(document);
        tellOthers(document);
    }

    private static void tellPictures(Document document) {
        String at = "Promise 11: raw";
        document.says(at, FRAME, AskedRows::rawFrame);
        document.says(at, "- `x`: an x", () -> rawLine(true));
        document.says(at, "- `y`: a y", () -> rawLine(false));
        at = "Promise 12: picture";
        document.says(at, FRAME, AskedRows::pictureFrame);
        document.says(at, "- `x`: an x", () -> pictureLine(true));
        document.says(at, "- `y`: a y", () -> pictureLine(false));
        at = "Promise 13: word";
        document.says(at, FRAME, AskedRows::wordFrame);
        document.says(at, "Returns a number w for its PICTURE", AskedRows::wordOfPicture);
    }

    private static void tellFrames(Document document) {
        String at = "Promise 14: ofFrame";
        document.says(at, FRAME, AskedRows::ofFrameFrame);
        document.says(at, THAT, AskedRows::ofFrameThat);
        at = "Promise 15: ofEdit";
        document.says(at, FRAME, AskedRows::ofEditFrame);
        document.says(at, THAT, AskedRows::ofEditThat);
        at = "Promise 16: zone";
        document.says(at, FRAME, AskedRows::zoneFrame);
        document.says(at, "- `zone`: a ZONE", AskedRows::zoneZone);
        document.says(at, "Returns its MEAN.", AskedRows::zoneMean);
        at = "Promise 17: meter";
        document.says(at, FRAME, AskedRows::meterFrame);
        document.says(at, "Returns the METER.", AskedRows::meter);
    }

    private static void tellOthers(Document document) {
        String at = "Promise 18: ofFile";
        document.says(at, "- `file`: a FILE", AskedRows::ofFileFile);
        document.says(at, THAT, AskedRows::ofFileThat);
        at = "Promise 19: ofPlace";
        document.says(at, "- `x`: an x", () -> ofPlaceLine(true));
        document.says(at, "- `y`: a y", () -> ofPlaceLine(false));
        document.says(at, THAT, AskedRows::ofPlaceThat);
        document.says("Promise 20: many", THAT, AskedRows::manyThat);
        document.says("Promise 21: apart", "- `one`: a FRAME", AskedRows::apartOne);
        at = "Promise 22: wouldClip";
        document.says(at, "- `time`: a TIME", AskedRows::clipTime);
        document.says(at, "- `gain`: a GAIN", AskedRows::clipGain);
        document.says("Promise 23: bestTake", "- `target`: a number", AskedRows::takeTarget);
        document.says("Promise 24: bestWhite", FRAME, AskedRows::whiteFrame);
        at = "Promise 25: digest";
        document.says(at, "Computes a checksum.", AskedRows::checksum);
        document.says(at, "Returns d.", AskedRows::digest);
    }

    private static void rawFrame() {
        Camera camera = Cameras.sixGreens();
        for (int frame = 0; frame < 6; frame++) {
            for (int other = 0; other < 6; other++) {
                Checks.same("frame " + other + ", hot place of " + frame, camera.raw(other, frame + 1, frame),
                    other == frame ? 255 : 0);
            }
        }
    }

    private static void rawLine(boolean isX) {
        for (int k = 0; k < 8; k++) {
            int x = isX ? k : 5;
            int y = isX ? 5 : k;
            Camera camera = Cameras.withRaw(x, y, 20 + k);
            for (int place = 0; place < 64; place++) {
                Checks.same("(" + x + ", " + y + "), place " + place, camera.raw(0, place % 8, place / 8),
                    place == 8 * y + x ? 20 + k : 0);
            }
        }
    }

    private static void pictureFrame() {
        Camera camera = Cameras.sixGreens();
        for (int frame = 0; frame < 6; frame++) {
            for (int other = 0; other < 6; other++) {
                Checks.same("frame " + other + ", hot place of " + frame, camera.picture(other, frame + 1, frame, 1),
                    other == frame ? 255.0 : 0.0);
            }
        }
    }

    private static void pictureLine(boolean isX) {
        for (int k = 0; k < 8; k++) {
            int x = isX ? k : 5;
            int y = isX ? 5 : k;
            Camera camera = Cameras.withRaw(x, y, 20 + k);
            int seen = x % 2 + y % 2;
            for (int place = 0; place < 64; place++) {
                boolean isSeenThere = place % 2 + place / 8 % 2 == seen;
                boolean isFar = Math.abs(place % 8 - x) > 1 || Math.abs(place / 8 - y) > 1;
                if (isSeenThere || isFar) {
                    Checks.same("(" + x + ", " + y + "), place " + place, camera.picture(0, place % 8, place / 8, seen),
                        place == 8 * y + x ? 20.0 + k : 0.0);
                }
            }
        }
    }

    private static void wordFrame() {
        Camera camera = Cameras.sixGreens();
        for (int frame = 0; frame < 6; frame++) {
            int word = Cameras.withHot(frame + 1, frame).word(0);
            for (int other = 0; other < 6; other++) {
                Checks.same("frame " + other + " is as " + frame, camera.word(other) == word, other == frame);
            }
        }
    }

    private static int wordByPicture(Camera camera, int frame) {
        int w = 7;
        for (int k = 0; k < 192; k++) {
            w = w * 31 + (int) camera.picture(frame, k / 3 % 8, k / 24, k % 3);
        }
        return w;
    }

    private static void wordOfPicture() {
        Camera crowded = Cameras.crowded();
        for (int frame = 0; frame < 6; frame++) {
            Checks.same("frame " + frame, crowded.word(frame), wordByPicture(crowded.copy(), frame));
        }
        Camera mending = Cameras.withHot(2, 2, 5, 5);
        int bare = mending.word(0);
        mending.edit(0, 5, 0);
        Checks.same("a mend, nothing mapped", mending.word(0), bare);
        mending.map(2, 2, true);
        Checks.same("a mend, mapped", mending.word(0), wordByPicture(mending.copy(), 0));
        Checks.same("is another", mending.word(0) == bare, false);
        mending.edit(0, 4, 0);
        Checks.same("flipped", mending.word(0), wordByPicture(mending.copy(), 0));
    }

    private static void ofFrameFrame() {
        Camera camera = Cameras.sixGreens();
        camera.edit(2, 4, 0);
        camera.save(3);
        for (int frame = 0; frame < 6; frame++) {
            int[] due = {1 + frame, 8 - frame, frame == 2 ? 1 : 0, 1, 0, frame == 0 ? 255 : 510, 16, 16, frame == 3 ? 1 : 0};
            for (int what = 0; what < due.length; what++) {
                Checks.same("frame " + frame + ", what " + what, camera.ofFrame(frame, what), due[what]);
            }
        }
    }

    private static void ofFrameThat() {
        Camera camera = Cameras.withRaw(1, 0, 100, 0, 1, 255, 0, 0, 30, 1, 1, 50, 7, 7, 255);
        Cameras.takeRaw(camera, 1, 0, 110, 0, 1, 100, 7, 7, 0);
        camera.merge(3, 20);
        camera.edit(2, 3, 2);
        camera.edit(2, 4, 0);
        camera.save(2);
        camera.save(0);
        camera.save(2);
        camera.save(2);
        // RAW of the merged one: greens of 105 and 255, reds of 30, blues of 50 and 255; SHARP: each green with a 0.
        int[] due = {16, 1, 2, 2, 2, 360, 16, 2, 3};
        for (int what = 0; what < due.length; what++) {
            Checks.same("what " + what, camera.ofFrame(2, what), due[what]);
        }
    }

    private static void ofEditFrame() {
        Camera camera = Cameras.sixGreens();
        for (int frame = 0; frame < 6; frame++) {
            camera.edit(frame, frame % 3 == 0 ? 0 : frame % 3, 5 + frame);
        }
        for (int frame = 0; frame < 6; frame++) {
            Checks.same("kind of " + frame, camera.ofEdit(frame, 0, 0), frame % 3);
            Checks.same("number of " + frame, camera.ofEdit(frame, 0, 1), 5 + frame);
        }
    }

    private static void ofEditThat() {
        Camera camera = new Camera();
        camera.take(1, 1);
        int[][] told = {{2, 7}, {0, 2}, {0, 0}, {1, 3}, {3, 1}, {5, 0}};
        for (int[] t : told) {
            camera.edit(0, t[0], t[1]);
        }
        for (int k = 0; k < told.length; k++) {
            for (int what = 0; what <= 1; what++) {
                Checks.same("edit " + k + ", what " + what, camera.ofEdit(0, k, what), told[k][what]);
            }
        }
    }

    private static void zoneFrame() {
        Camera camera = Cameras.sixGreens();
        int[] zones = {0, 0, 0, 1, 3, 3};
        for (int frame = 0; frame < 6; frame++) {
            for (int zone = 0; zone < 4; zone++) {
                Checks.same("frame " + frame + ", zone " + zone, camera.zone(frame, zone), zone == zones[frame] ? 31.875 : 0.0);
            }
        }
    }

    private static void zoneZone() {
        Camera camera = Cameras.withRaw(2, 1, 24, 5, 2, 32, 1, 6, 40, 6, 5, 48);
        double[] due = {3.0, 4.0, 5.0, 6.0};
        for (int zone = 0; zone < 4; zone++) {
            Checks.same("zone " + zone, camera.zone(0, zone), due[zone]);
        }
    }

    private static void zoneMean() {
        Camera camera = Cameras.withRaw(1, 0, 19, 3, 0, 20, 0, 1, 21, 2, 1, 22, 1, 2, 23, 3, 2, 24, 0, 3, 25, 2, 3, 27,
            0, 0, 99, 1, 1, 98, 4, 1, 97, 1, 4, 96);
        Checks.same("181 / 8", camera.zone(0, 0), 22.625);
        camera.edit(0, 3, 2);
        Checks.same("by RAW, not by the PICTURE", camera.zone(0, 0), 22.625);
        camera.map(1, 0, true);
        camera.edit(0, 5, 0);
        Checks.same("by RAW, not by what is mended", camera.zone(0, 0), 22.625);
    }

    private static void meterFrame() {
        Camera camera = Cameras.withHot(1, 0);
        Cameras.takeHot(camera, 1, 0, 5, 0);
        Cameras.takeHot(camera);
        Cameras.takeHot(camera, 1, 0, 5, 0, 1, 4, 5, 4);
        double[] due = {7.96875, 15.9375, 0.0, 31.875};
        for (int frame = 0; frame < due.length; frame++) {
            Checks.same("frame " + frame, camera.meter(frame), due[frame]);
        }
    }

    private static void meter() {
        Camera camera = Cameras.withRaw(2, 1, 24, 5, 2, 32, 1, 6, 40, 6, 5, 49, 4, 4, 255);
        Checks.same("(3 + 4 + 5 + 6.125) / 4", camera.meter(0), 4.53125);
        for (Camera other : new Camera[] {Cameras.rich(), Cameras.crowded()}) {
            for (int frame = 0; frame < other.many(0); frame++) {
                double sum = 0.0;
                for (int zone = 0; zone < 4; zone++) {
                    sum = sum + other.zone(frame, zone);
                }
                Checks.same("by the zones of " + frame, other.meter(frame), sum / 4.0);
            }
        }
    }

    private static void ofFileFile() {
        Camera camera = Cameras.sixGreens();
        int[] frames = {4, 1, 5, 0, 3, 2};
        for (int file = 0; file < 6; file++) {
            camera.save(frames[file]);
        }
        for (int file = 0; file < 6; file++) {
            Checks.same("frame of " + file, camera.ofFile(file, 0), frames[file]);
            Checks.same("word of " + file, camera.ofFile(file, 3), Cameras.withHot(frames[file] + 1, frames[file]).word(0));
        }
    }

    private static void ofFileThat() {
        Camera camera = Cameras.sixGreens();
        camera.save(4);
        camera.edit(4, 3, 2);
        camera.edit(4, 4, 0);
        camera.edit(4, 0, 3);
        int word = camera.word(4);
        camera.save(4);
        camera.undo(4);
        int[] due = {4, 2, 3, word};
        for (int what = 0; what < due.length; what++) {
            Checks.same("what " + what, camera.ofFile(1, what), due[what]);
        }
    }

    private static void ofPlaceLine(boolean isX) {
        for (int k = 0; k < 8; k++) {
            int x = isX ? k : 2;
            int y = isX ? 2 : k;
            Camera camera = new Camera();
            camera.paint(x, y, x, y, 9 * GREY);
            for (int place = 0; place < 64; place++) {
                Checks.same("(" + x + ", " + y + "), place " + place, camera.ofPlace(place % 8, place / 8, place % 3),
                    place == 8 * y + x ? 9 : 0);
            }
        }
    }

    private static void ofPlaceThat() {
        Camera camera = new Camera();
        camera.paint(5, 3, 5, 3, 10 + 256 * 20 + 65536 * 30);
        camera.spoil(5, 3, 1);
        camera.map(5, 3, true);
        camera.lamp(16, 16, 16);
        int[] due = {10, 20, 30, 2, 1, 1};
        for (int what = 0; what < due.length; what++) {
            Checks.same("what " + what, camera.ofPlace(5, 3, what), due[what]);
        }
        int[] beside = {0, 0, 0, 1, 0, 0};
        for (int what = 0; what < beside.length; what++) {
            Checks.same("what " + what + " beside", camera.ofPlace(4, 3, what), beside[what]);
        }
    }

    private static void manyThat() {
        Camera camera = new Camera();
        camera.spoil(1, 0, 1);
        camera.spoil(2, 0, 2);
        camera.spoil(3, 0, 2);
        camera.spoil(4, 0, 1);
        camera.map(1, 0, true);
        camera.map(7, 7, true);
        camera.take(1, 1);
        camera.take(1, 1);
        camera.take(1, 1);
        camera.merge(7, 0);
        camera.edit(3, 4, 0);
        camera.edit(0, 4, 0);
        camera.edit(0, 4, 0);
        camera.save(3);
        camera.save(0);
        camera.save(3);
        camera.save(0);
        camera.save(1);
        int[] due = {4, 5, 2, Cameras.drawBehind(192), 3, 4, 3};
        for (int what = 0; what < due.length; what++) {
            Checks.same("what " + what, camera.many(what), due[what]);
        }
    }

    private static void apartOne() {
        Camera camera = new Camera();
        Cameras.spoilAll(camera, 1);
        for (int frame = 0; frame < 6; frame++) {
            Cameras.takeRaw(camera, 4, 4, 20 + frame * frame);
        }
        for (int one = 0; one < 6; one++) {
            for (int other = 0; other < 6; other++) {
                Checks.same(one + " and " + other, camera.apart(one, other), (double) Math.abs(one * one - other * other));
            }
        }
    }

    /** What the dark gives in a place of a first frame. */
    private static int dark(int place) {
        return 12 + Cameras.drawBehind(place + 1) % 8;
    }

    /** One place is clipped from each TIME on: by the least colour that gives light enough at that time. */
    private static void clipTimes(int quarters, int gain, int from, int to) {
        Camera camera = new Camera();
        camera.lamp(quarters, quarters, quarters);
        for (int time = from; time <= to; time++) {
            int place = time - from;
            int well = (255 - dark(place) + gain - 1) / gain;
            int parts = quarters * time;
            camera.paint(place % 8, place / 8, place % 8, place / 8, (64 * well + parts - 1) / parts * GREY);
        }
        for (int time = 1; time <= 64; time++) {
            Checks.same("time " + time + " by gain " + gain, camera.wouldClip(time, gain),
                Math.max(0, Math.min(time, to) - from + 1));
        }
    }

    private static void clipTime() {
        clipTimes(2, 1, 31, 64);
        clipTimes(8, 1, 8, 30);
        clipTimes(16, 8, 1, 7);
    }

    /** One place is clipped from each GAIN on. */
    private static void clipGain() {
        Camera camera = new Camera();
        for (int gain = 1; gain <= 8; gain++) {
            int place = 9 * (gain - 1);
            camera.paint(gain - 1, gain - 1, gain - 1, gain - 1, (255 - dark(place) + gain - 1) / gain * GREY);
        }
        for (int gain = 1; gain <= 8; gain++) {
            Checks.same("gain " + gain, camera.wouldClip(16, gain), gain);
        }
    }

    /** The best of all 56, told by frames that are taken: for each target there is. */
    private static void takeTarget() {
        Camera camera = new Camera();
        camera.paint(0, 0, 7, 7, 90 * GREY);
        camera.paint(2, 1, 6, 5, 256 * 31 + 7);
        camera.spoil(4, 3, 2);
        camera.spoil(1, 2, 1);
        camera.take(3, 1);
        double[] meters = new double[56];
        for (int k = 0; k < 56; k++) {
            Camera taking = camera.copy();
            meters[k] = taking.meter(taking.take(1 << k % 7, 1 + k / 7));
        }
        for (int target = 0; target <= 255; target++) {
            int best = 0;
            for (int k = 1; k < 56; k++) {
                if (Math.abs(meters[k] - target) < Math.abs(meters[best] - target)) {
                    best = k;
                }
            }
            Checks.same("target " + target, camera.bestTake(target), 16 * (1 << best % 7) + 1 + best / 7);
        }
    }

    /** Six frames, each with another red beside the same greens, and each with blues that are another frame's reds. */
    private static Camera sixWhites() {
        int[] reds = {255, 200, 165, 130, 90, 33};
        Camera camera = new Camera();
        Cameras.spoilAll(camera, 1);
        for (int frame = 0; frame < 6; frame++) {
            Cameras.takeRaw(camera, 0, 0, reds[frame], 7, 0, 255, 7, 7, reds[5 - frame]);
        }
        return camera;
    }

    private static int toneSum(Camera camera, int frame, int colour) {
        int sum = 0;
        for (int place = 0; place < 64; place++) {
            sum += (int) camera.picture(frame, place % 8, place / 8, colour);
        }
        return sum;
    }

    /** The best of all 16, told by edits that are told. */
    private static int bestOf(int frame, int kind) {
        int best = 0;
        int nearest = Integer.MAX_VALUE;
        for (int number = 1; number <= 16; number++) {
            Camera camera = sixWhites();
            camera.edit(frame, kind, number);
            int off = Math.abs(toneSum(camera, frame, 1) - toneSum(camera, frame, kind == 1 ? 0 : 2));
            if (off < nearest) {
                nearest = off;
                best = number;
            }
        }
        return best;
    }

    private static void whiteFrame() {
        int[] warms = new int[6];
        for (int frame = 0; frame < 6; frame++) {
            warms[frame] = bestOf(frame, 1);
            Checks.same("warm of " + frame, sixWhites().bestWhite(frame, 1), warms[frame]);
            Checks.same("cool of " + frame, sixWhites().bestWhite(frame, 2), bestOf(frame, 2));
            Checks.same("another than of the one ahead of it", frame > 0 && warms[frame] == warms[frame - 1], false);
        }
    }

    private static void checksum() {
        Checks.same("of two that were told the same", Cameras.crowded().digest(), Cameras.crowded().digest());
        Camera camera = Cameras.rich();
        long before = camera.digest();
        Checks.same("asked again", camera.digest(), before);
        Camera.Deed[] deeds = {c -> c.spoil(7, 7, 1), c -> c.map(7, 7, true), c -> c.take(1, 1), c -> c.merge(6, 9),
            c -> c.edit(1, 4, 0), c -> c.undo(0), c -> c.save(1), c -> c.paint(0, 0, 7, 7, 0xffffff)};
        for (int k = 0; k < deeds.length; k++) {
            Camera told = Cameras.rich();
            deeds[k].done(told);
            Checks.same("another behind call " + k, told.digest() == before, false);
        }
    }

    private static void digest() {
        Camera camera = Cameras.withHot();
        int word = 7;
        for (int k = 0; k < 192; k++) {
            word = word * 31;
        }
        // A dead FRAME: many() of 0 to 6, ofFrame() of 0 to 8, its word, METER and RAW, and nothing that would be clipped.
        long[] values = {1, 0, 0, 14, 0, 64, 64, 1, 1, 0, 0, 0, 0, 16, 16, 0, word, 0};
        long d = 9602;
        for (long v : values) {
            d = d * 31 + v;
        }
        for (int k = 0; k < 65; k++) {
            d = d * 31;
        }
        Checks.same("of a dead frame", camera.digest(), d);
    }
}
