/** Section 3 of the document: sentence by sentence. */
final class MeasureEdges {
    private static final String AT = "3. Measures";

    private MeasureEdges() {
    }

    static void tell(Document document) {
        document.says(AT, "ZONES 0 to 3: x / 4, and 2 times (y / 4).", MeasureEdges::zones);
        document.says(AT, "MEAN (double) of a ZONE of a FRAME: the sum of RAW of its GREEN PLACES / 8.0", MeasureEdges::means);
        document.says(AT, "The METER: the mean of MEANS of all ZONES", MeasureEdges::meter);
        document.says(AT, "ZONE by ZONE added (double), / 4.0", MeasureEdges::meterIsDouble);
        document.says(AT, "SHARP: the sum over all GREEN PLACES (x, y) with x and y below 7 of", MeasureEdges::sharp);
        document.says(AT, "the difference, without its sign", MeasureEdges::sharpWithoutSign);
        document.says(AT, "of RAW there and of RAW at (x + 1, y + 1)", MeasureEdges::sharpBound);
        document.says(AT, "WHITE of a FRAME: 4 times the sum of RAW of all GREEN PLACES", () -> white(2, 2, 2));
        document.says(AT, "divided by 2 times the sum of those of a COLOUR (RED or BLUE) (whole)", MeasureEdges::whiteIsWhole);
        document.says(AT, "1 at least and", MeasureEdges::whiteAtLeast);
        document.says(AT, "16 at most", MeasureEdges::whiteAtMost);
        document.says(AT, "16, if that sum is 0", MeasureEdges::whiteOfNothing);
    }

    /** Each place alone hot: an eighth of it in its zone, if it is green, and nothing elsewhere. */
    private static void zones() {
        for (int hot = 0; hot < 64; hot++) {
            int x = hot % 8;
            int y = hot / 8;
            int its = (x < 4 ? 0 : 1) + (y < 4 ? 0 : 2);
            Camera camera = Cameras.withHot(x, y);
            for (int zone = 0; zone < 4; zone++) {
                double due = zone == its && (x + y) % 2 == 1 ? 31.875 : 0.0;
                Checks.same("hot " + hot + ", zone " + zone, camera.zone(0, zone), due);
            }
        }
    }

    private static void means() {
        Camera camera = new Camera();
        Cameras.takeColours(camera, true, false, true);
        Cameras.takeColours(camera, false, true, false);
        for (int zone = 0; zone < 4; zone++) {
            Checks.same("the least, amid bright reds and blues, " + zone, camera.zone(0, zone), 0.0);
            Checks.same("the greatest, amid dark ones, " + zone, camera.zone(1, zone), 255.0);
        }
        Checks.same("19 / 8", Cameras.withRaw(1, 0, 19).zone(0, 0), 2.375);
        Checks.same("(19 + 254) / 8", Cameras.withRaw(1, 0, 19, 3, 2, 254).zone(0, 0), 34.125);
        Checks.same("the last, 20 / 8", Cameras.withRaw(6, 7, 20).zone(0, 3), 2.5);
    }

    private static void meter() {
        Camera camera = new Camera();
        Cameras.takeColours(camera, true, false, true);
        Cameras.takeColours(camera, false, true, false);
        Checks.same("the least", camera.meter(0), 0.0);
        Checks.same("the greatest", camera.meter(1), 255.0);
        int[] greens = {3, 2, 4, 3, 3, 4, 4, 5};
        for (int k = 0; k < 8; k += 2) {
            Checks.same("of zone " + k / 2, Cameras.withHot(greens[k], greens[k + 1]).meter(0), 7.96875);
        }
        Checks.same("of all four", Cameras.withHot(greens).meter(0), 31.875);
    }

    private static void meterIsDouble() {
        Checks.same("19 / 32", Cameras.withRaw(1, 0, 19).meter(0), 0.59375);
        Checks.same("(19 + 20 + 21 + 22) / 32", Cameras.withRaw(1, 0, 19, 7, 2, 20, 0, 5, 21, 6, 7, 22).meter(0), 2.5625);
    }

    /** Each place alone hot, then alone dead: by as many pairs as it stands in. */
    private static void sharp() {
        Camera bright = new Camera();
        Cameras.spoilAll(bright, 2);
        for (int place = 0; place < 64; place++) {
            int x = place % 8;
            int y = place / 8;
            boolean isGreen = x % 2 != y % 2;
            int pairs = isGreen ? (x < 7 && y < 7 ? 1 : 0) + (x > 0 && y > 0 ? 1 : 0) : 0;
            Checks.same("hot at " + place, Cameras.withHot(x, y).ofFrame(0, 5), 255 * pairs);
            Camera camera = bright.copy();
            camera.spoil(x, y, 1);
            camera.take(1, 1);
            Checks.same("dead at " + place, camera.ofFrame(0, 5), 255 * pairs);
        }
    }

    private static void sharpWithoutSign() {
        Checks.same("20, then 50", Cameras.withRaw(2, 1, 20, 3, 2, 50).ofFrame(0, 5), 20 + 30 + 50);
        Checks.same("50, then 20", Cameras.withRaw(2, 1, 50, 3, 2, 20).ofFrame(0, 5), 50 + 30 + 20);
        Checks.same("up and down do not make up", Cameras.withRaw(1, 0, 50, 2, 1, 20, 3, 2, 50).ofFrame(0, 5), 30 + 30 + 50);
    }

    private static void sharpBound() {
        Camera camera = new Camera();
        Cameras.spoilAll(camera, 2);
        camera.take(1, 1);
        Checks.same("all the same", camera.ofFrame(0, 5), 0);
        Checks.same("all dead", Cameras.withHot().ofFrame(0, 5), 0);
        for (int place = 0; place < 64; place++) {
            camera.spoil(place % 8, place / 8, place / 8 % 2 == 0 ? 1 : 2);
        }
        camera.take(1, 1);
        // Of 49 places that are below 7 in x and y, 24 are green.
        Checks.same("row by row another", camera.ofFrame(1, 5), 24 * 255);
        Checks.same("the last pair", Cameras.withRaw(6, 5, 90, 7, 6, 20).ofFrame(0, 5), 90 + 70);
        Checks.same("in the last column and row alone", Cameras.withRaw(7, 0, 90, 0, 7, 80).ofFrame(0, 5), 0);
    }

    /** The first so many reds, greens and blues are hot, all others dead. */
    private static Camera some(int reds, int greens, int blues) {
        int[] left = {reds, greens, blues};
        int[] places = new int[2 * (reds + greens + blues)];
        int at = 0;
        for (int place = 0; place < 64; place++) {
            int colour = place % 8 % 2 + place / 8 % 2;
            if (left[colour] > 0) {
                left[colour]--;
                places[at++] = place % 8;
                places[at++] = place / 8;
            }
        }
        return Cameras.withHot(places);
    }

    private static void white(int reds, int greens, int blues) {
        Camera camera = some(reds, greens, blues);
        for (int k = 0; k < 2; k++) {
            int others = k == 0 ? reds : blues;
            int due = others == 0 ? 16 : Math.max(1, Math.min(16, 2 * greens / others));
            Checks.same(greens + " greens by " + others + ", " + k, camera.ofFrame(0, 6 + k), due);
        }
    }

    private static void whiteIsWhole() {
        // 1.75 and 1.33; 2.85 and 3; 15.5 and 15.
        white(8, 7, 9);
        white(7, 10, 6);
        white(4, 31, 4);
        white(2, 15, 1);
        Camera camera = Cameras.withRaw(0, 0, 51, 1, 1, 50, 1, 0, 99);
        Checks.same("396 / 102", camera.ofFrame(0, 6), 3);
        Checks.same("396 / 100", camera.ofFrame(0, 7), 3);
        Camera other = Cameras.withRaw(0, 0, 51, 1, 1, 50, 1, 0, 102, 3, 0, 23);
        Checks.same("500 / 102", other.ofFrame(0, 6), 4);
        Checks.same("500 / 100", other.ofFrame(0, 7), 5);
    }

    private static void whiteAtLeast() {
        white(2, 1, 3);
        white(16, 1, 16);
        white(1, 0, 1);
        Camera camera = Cameras.withRaw(0, 0, 101, 1, 1, 100, 1, 0, 50);
        Checks.same("200 / 202 is 0", camera.ofFrame(0, 6), 1);
        Checks.same("200 / 200 is 1", camera.ofFrame(0, 7), 1);
        Camera two = Cameras.withRaw(0, 0, 51, 1, 1, 50, 1, 0, 50);
        Checks.same("200 / 102 is 1", two.ofFrame(0, 6), 1);
        Checks.same("200 / 100 is 2", two.ofFrame(0, 7), 2);
    }

    private static void whiteAtMost() {
        white(1, 8, 2);
        white(1, 9, 2);
        white(1, 32, 1);
        Camera camera = Cameras.withRaw(0, 0, 21, 1, 1, 20, 1, 0, 160);
        Checks.same("640 / 42 is 15", camera.ofFrame(0, 6), 15);
        Checks.same("640 / 40 is 16", camera.ofFrame(0, 7), 16);
        Camera more = Cameras.withRaw(0, 0, 20, 1, 1, 19, 1, 0, 170);
        Checks.same("680 / 40 is 17", more.ofFrame(0, 6), 16);
        Checks.same("680 / 38 is 17", more.ofFrame(0, 7), 16);
    }

    private static void whiteOfNothing() {
        white(0, 0, 0);
        white(0, 1, 0);
        white(0, 0, 1);
        white(1, 0, 0);
        white(0, 32, 16);
        white(16, 32, 0);
    }
}
