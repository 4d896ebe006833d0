/** Section 2 of the document: sentence by sentence. */
final class EditEdges {
    private static final String AT = "2. Edits";

    private EditEdges() {
    }

    static void tell(Document document) {
        document.says(AT, "A FRAME has at most 6 EDITS", EditEdges::sixEdits);
        document.says(AT, "in the order in which they were told", EditEdges::inTheirOrder);
        document.says(AT, "KIND 0 BLACK (a number of 0 to 64)", () -> numbers(0, 0, 64));
        document.says(AT, "1 WARM (of 1 to 16)", () -> numbers(1, 1, 16));
        document.says(AT, "2 COOL (of 1 to 16)", () -> numbers(2, 1, 16));
        document.says(AT, "3 TONE (of 0 to 2)", () -> numbers(3, 0, 2));
        document.says(AT, "4 FLIP (0)", () -> numbers(4, 0, 0));
        document.says(AT, "5 MEND (0)", () -> numbers(5, 0, 0));
        document.says(AT, "They are applied to a PICTURE (by what is MAPPED as it is asked)", EditEdges::mappedAsAsked);
        document.says(AT, "three floats (RED, GREEN, BLUE) in each PLACE.", EditEdges::threeFloats);
        document.says(AT, "First, on RAW alone", EditEdges::firstOnRaw);
        document.says(AT, "if there is a MEND among the EDITS", EditEdges::mendAmongEdits);
        document.says(AT, "each MAPPED PLACE gets the mean of RAW", EditEdges::mappedAlone);
        document.says(AT, "(the sum divided by how many, whole)", EditEdges::meanIsWhole);
        document.says(AT, "of those that see the same COLOUR", EditEdges::twoAway);
        document.says(AT, "are not MAPPED, and", EditEdges::ofNotMapped);
        document.says(AT, "are 2 away in x (y the same) or in y (x the same)", EditEdges::eachOfFour);
        document.says(AT, "if there is none, it stays", EditEdges::noneLeft);
        document.says(AT, "(All by RAW ahead of that.)", EditEdges::byRawAhead);
        document.says(AT, "Then COLOURS are made whole: that which the PLACE sees is its RAW (behind MEND) made float",
            EditEdges::itsOwn);
        document.says(AT, "each other COLOUR: (float) (the sum of RAW of all PLACES of the eight around it that see that COLOUR)"
            + " / how many these are", EditEdges::around);
        document.says(AT, "how many these are (RAW behind MEND)", EditEdges::aroundBehindMend);
        document.says(AT, "Then EDIT by EDIT", EditEdges::editByEdit);
        document.says(AT, "BLACK n: each number less n", EditEdges::black);
        document.says(AT, "0f at least", EditEdges::blackAtLeast);
        document.says(AT, "WARM n: RED times (n / 4f)", () -> warmOrCool(1, 0));
        document.says(AT, "COOL n: BLUE times (n / 4f)", () -> warmOrCool(2, 2));
        document.says(AT, "TONE 0: each number times 0.5f", EditEdges::half);
        document.says(AT, "1: times 2f", EditEdges::twice);
        document.says(AT, "2: 255f less it", EditEdges::turned);
        document.says(AT, "FLIP: (x, y) gets what (7 - x, y) had", EditEdges::flip);
        document.says(AT, "MEND: nothing more.", EditEdges::mendNothingMore);
        document.says(AT, "At the end each number is", EditEdges::heldAtTheEnd);
        document.says(AT, "Math.max(0f,", EditEdges::heldAtLeast);
        document.says(AT, "Math.min(255f, it))", EditEdges::heldAtMost);
        document.says(AT, "A TONE of a PICTURE is its number cut to a whole one.", EditEdges::tonesAreCut);
    }

    private static void sixEdits() {
        Camera camera = new Camera();
        camera.take(1, 1);
        camera.take(1, 1);
        Checks.same("none", camera.ofFrame(0, 2), 0);
        for (int k = 1; k <= 6; k++) {
            Checks.same("edit " + k, camera.edit(0, 3, k % 3), k);
            Checks.same("edits " + k, camera.ofFrame(0, 2), k);
        }
        int[] least = {0, 1, 1, 0, 0, 0};
        for (int kind = 0; kind < 6; kind++) {
            int of = kind;
            Checks.refused(camera, "the seventh, kind " + kind, Cameras.STATE, c -> c.edit(0, of, least[of]));
        }
        Checks.same("another frame has its own", camera.edit(1, 4, 0), 1);
        camera.undo(0);
        Checks.same("the sixth again", camera.edit(0, 4, 0), 6);
    }

    /** The red of (3, 2), which is 127.5 ahead of the edits. */
    private static double red(int... edits) {
        Camera camera = Cameras.withHot(2, 2);
        for (int k = 0; k < edits.length; k += 2) {
            camera.edit(0, edits[k], edits[k + 1]);
        }
        return camera.picture(0, 3, 2, 0);
    }

    private static void inTheirOrder() {
        Checks.same("black, then twice", red(0, 27, 3, 1), 201.0);
        Checks.same("twice, then black", red(3, 1, 0, 27), 228.0);
        Checks.same("half, turned, black, twice, half, black", red(3, 0, 3, 2, 0, 1, 3, 1, 3, 0, 0, 2), 188.25);
        Camera camera = new Camera();
        camera.take(1, 1);
        int[][] told = {{5, 0}, {0, 64}, {3, 2}, {1, 16}, {4, 0}, {2, 1}};
        for (int[] t : told) {
            camera.edit(0, t[0], t[1]);
        }
        for (int k = 0; k < told.length; k++) {
            Checks.same("kind " + k, camera.ofEdit(0, k, 0), told[k][0]);
            Checks.same("number " + k, camera.ofEdit(0, k, 1), told[k][1]);
        }
    }

    private static void numbers(int kind, int least, int most) {
        Camera camera = Cameras.rich();
        Checks.range(camera, "number", least, most, Cameras.ARGUMENT, (c, v) -> c.edit(1, kind, v));
        camera.edit(1, kind, least);
        camera.edit(1, kind, most);
        Checks.same("the kind is kept", camera.ofEdit(1, 1, 0), kind);
        Checks.same("the least is kept", camera.ofEdit(1, 1, 1), least);
        Checks.same("the greatest is kept", camera.ofEdit(1, 2, 1), most);
    }

    private static void mappedAsAsked() {
        Camera camera = Cameras.withHot(2, 2);
        camera.edit(0, 5, 0);
        Checks.same("not mapped yet", camera.picture(0, 2, 2, 0), 255.0);
        camera.map(2, 2, true);
        Checks.same("mapped behind the edit", camera.picture(0, 2, 2, 0), 0.0);
        camera.map(2, 2, false);
        Checks.same("not any more", camera.picture(0, 2, 2, 0), 255.0);
    }

    private static double[] numbersOf(Camera camera, int frame) {
        double[] numbers = new double[192];
        for (int k = 0; k < 192; k++) {
            numbers[k] = camera.picture(frame, k / 3 % 8, k / 24, k % 3);
        }
        return numbers;
    }

    private static void threeFloats() {
        for (int colour = 0; colour < 3; colour++) {
            Camera camera = new Camera();
            Cameras.takeColours(camera, colour == 0, colour == 1, colour == 2);
            double[] numbers = numbersOf(camera, 0);
            for (int k = 0; k < 192; k++) {
                Checks.same("number " + k + " of colour " + colour + " alone", numbers[k], k % 3 == colour ? 255.0 : 0.0);
            }
        }
        for (int frame = 0; frame < 6; frame++) {
            for (double number : numbersOf(Cameras.crowded(), frame)) {
                boolean isHeld = number >= 0.0 && number <= 255.0;
                Checks.same(number + " is a float of 0 to 255", isHeld && number == (float) number, true);
            }
        }
    }

    private static void firstOnRaw() {
        // Mended by 200, 255, 0 and 0 it is 113: behind the other edits it would be of what these leave.
        int[][] others = {{0, 10}, {1, 2}, {3, 0}, {3, 2}};
        double[] due = {103.0, 56.5, 56.5, 142.0};
        for (int k = 0; k < others.length; k++) {
            for (int ahead = 0; ahead < 2; ahead++) {
                Camera camera = Cameras.withRaw(2, 2, 77, 0, 2, 200, 4, 2, 255);
                camera.map(2, 2, true);
                int[][] told = ahead == 0 ? new int[][] {others[k], {5, 0}} : new int[][] {{5, 0}, others[k]};
                camera.edit(0, told[0][0], told[0][1]);
                camera.edit(0, told[1][0], told[1][1]);
                Checks.same("a mend and kind " + others[k][0] + ", " + ahead, camera.picture(0, 2, 2, 0), due[k]);
                Checks.same("RAW stays", camera.raw(0, 2, 2), 77);
            }
        }
    }

    private static void editByEdit() {
        Camera camera = Cameras.withRaw(0, 0, 200, 1, 0, 90, 2, 3, 180, 3, 3, 254, 5, 4, 60, 6, 6, 40, 7, 7, 33);
        double[] due = numbersOf(camera, 0);
        camera.edit(0, 0, 9);
        camera.edit(0, 3, 0);
        camera.edit(0, 1, 3);
        camera.edit(0, 4, 0);
        camera.edit(0, 2, 7);
        camera.edit(0, 3, 2);
        double[] got = numbersOf(camera, 0);
        for (int k = 0; k < 192; k++) {
            int from = k + 3 * (7 - 2 * (k / 3 % 8));
            float number = Math.max(0f, (float) due[from] - 9f) * 0.5f;
            number = k % 3 == 0 ? number * 0.75f : number;
            number = 255f - (k % 3 == 2 ? number * 1.75f : number);
            Checks.same("number " + k, got[k], (double) number);
        }
    }

    private static void mendAmongEdits() {
        Camera camera = Cameras.withHot(2, 2);
        camera.map(2, 2, true);
        Checks.same("no edit", camera.picture(0, 2, 2, 0), 255.0);
        for (int k = 0; k < 5; k++) {
            camera.edit(0, 0, 1);
        }
        Checks.same("no mend among five", camera.picture(0, 2, 2, 0), 250.0);
        camera.edit(0, 5, 0);
        Checks.same("a mend is the sixth", camera.picture(0, 2, 2, 0), 0.0);
        camera.undo(0);
        Checks.same("taken back", camera.picture(0, 2, 2, 0), 250.0);
        for (int k = 0; k < 5; k++) {
            camera.undo(0);
        }
        camera.edit(0, 5, 0);
        camera.edit(0, 3, 2);
        Checks.same("a mend is the first", camera.picture(0, 2, 2, 0), 255.0);
        Cameras.takeHot(camera, 2, 2);
        Checks.same("a mend of another frame", camera.picture(1, 2, 2, 0), 255.0);
    }

    private static void mappedAlone() {
        Camera camera = Cameras.withHot(2, 2, 4, 4);
        camera.edit(0, 5, 0);
        Checks.same("nothing is mapped", camera.picture(0, 2, 2, 0), 255.0);
        camera.map(2, 2, true);
        Checks.same("mapped", camera.picture(0, 2, 2, 0), 0.0);
        Checks.same("not mapped", camera.picture(0, 4, 4, 0), 255.0);
        Checks.same("beside two hot ones, not mapped", camera.picture(0, 4, 2, 0), 0.0);
        camera.map(4, 2, true);
        camera.map(2, 2, false);
        Checks.same("a good one, mapped", camera.picture(0, 4, 2, 0), 127.0);
    }

    private static void meanIsWhole() {
        Camera camera = Cameras.withRaw(0, 2, 20, 4, 2, 20, 2, 0, 20, 2, 4, 23);
        camera.edit(0, 5, 0);
        camera.map(2, 2, true);
        Checks.same("83 / 4", camera.picture(0, 2, 2, 0), 20.0);
        camera.map(0, 2, true);
        Checks.same("63 / 3", camera.picture(0, 2, 2, 0), 21.0);
        camera.map(2, 0, true);
        Checks.same("43 / 2", camera.picture(0, 2, 2, 0), 21.0);
        camera.map(4, 2, true);
        Checks.same("23 / 1", camera.picture(0, 2, 2, 0), 23.0);
    }

    private static void twoAway() {
        // A green one amid hot reds and blues, and a red and a blue one amid other hot colours.
        Camera camera = new Camera();
        Cameras.takeColours(camera, true, false, true);
        camera.edit(0, 5, 0);
        camera.map(3, 2, true);
        Checks.same("green", camera.picture(0, 3, 2, 1), 0.0);
        Camera others = new Camera();
        Cameras.takeColours(others, false, true, true);
        others.edit(0, 5, 0);
        others.map(4, 4, true);
        Checks.same("red", others.picture(0, 4, 4, 0), 0.0);
        Camera greens = Cameras.withHot(2, 1, 4, 1, 2, 3, 4, 3, 3, 2);
        greens.edit(0, 5, 0);
        greens.map(3, 2, true);
        Checks.same("greens across are not 2 away", greens.picture(0, 3, 2, 1), 0.0);
    }

    private static void ofNotMapped() {
        Camera camera = Cameras.withHot(3, 1);
        camera.edit(0, 5, 0);
        camera.map(3, 3, true);
        Checks.same("of four", camera.picture(0, 3, 3, 2), 63.0);
        camera.map(3, 1, true);
        Checks.same("of the other three", camera.picture(0, 3, 3, 2), 0.0);
        camera.map(3, 1, false);
        camera.map(1, 3, true);
        camera.map(5, 3, true);
        Checks.same("of two", camera.picture(0, 3, 3, 2), 127.0);
    }

    private static int howMany(int x, int y) {
        return (x >= 2 ? 1 : 0) + (x <= 5 ? 1 : 0) + (y >= 2 ? 1 : 0) + (y <= 5 ? 1 : 0);
    }

    /** Each place alone hot, and each place alone mapped: also in the corners and at the edges. */
    private static void eachOfFour() {
        for (int hot = 0; hot < 64; hot++) {
            Camera camera = Cameras.withHot(hot % 8, hot / 8);
            camera.edit(0, 5, 0);
            for (int place = 0; place < 64; place++) {
                int x = place % 8;
                int y = place / 8;
                int offX = Math.abs(x - hot % 8);
                int offY = Math.abs(y - hot / 8);
                boolean isOfFour = offX + offY == 2 && offX != 1;
                camera.map(x, y, true);
                Checks.same("hot " + hot + ", mapped " + place, camera.picture(0, x, y, x % 2 + y % 2),
                    isOfFour ? (double) (255 / howMany(x, y)) : 0.0);
                camera.map(x, y, false);
            }
        }
    }

    private static void noneLeft() {
        Camera camera = Cameras.withHot(0, 0);
        camera.edit(0, 5, 0);
        camera.map(0, 0, true);
        camera.map(2, 0, true);
        Checks.same("one left", camera.picture(0, 0, 0, 0), 0.0);
        camera.map(0, 2, true);
        Checks.same("none left in a corner", camera.picture(0, 0, 0, 0), 255.0);
        for (int place = 0; place < 64; place++) {
            camera.map(place % 8, place / 8, true);
        }
        Checks.same("all are mapped", camera.picture(0, 0, 0, 0), 255.0);
        Checks.same("all are mapped, a dead one", camera.picture(0, 2, 2, 0), 0.0);
        Camera each = new Camera();
        for (int place = 0; place < 64; place++) {
            each.paint(place % 8, place / 8, place % 8, place / 8, (3 * place + 1) * (1 + 256 + 65536));
            each.map(place % 8, place / 8, true);
        }
        each.take(16, 1);
        each.edit(0, 5, 0);
        for (int place = 0; place < 64; place++) {
            int x = place % 8;
            int y = place / 8;
            Checks.same("all are mapped, place " + place, each.picture(0, x, y, x % 2 + y % 2), (double) each.raw(0, x, y));
        }
    }

    private static void byRawAhead() {
        Camera camera = Cameras.withHot(4, 0, 3, 7);
        camera.edit(0, 5, 0);
        camera.map(2, 0, true);
        Checks.same("of three", camera.picture(0, 2, 0, 0), 85.0);
        camera.map(0, 0, true);
        camera.map(0, 2, true);
        Checks.same("not by one that is mended behind it", camera.picture(0, 0, 0, 0), 0.0);
        camera.map(5, 7, true);
        camera.map(7, 7, true);
        camera.map(7, 5, true);
        Checks.same("of two", camera.picture(0, 5, 7, 2), 127.0);
        Checks.same("not by one that is mended ahead of it", camera.picture(0, 7, 7, 2), 0.0);
    }

    private static void itsOwn() {
        Camera camera = Cameras.withRaw(0, 0, 20, 1, 0, 254, 7, 7, 19, 3, 3, 255, 4, 5, 99);
        for (int place = 0; place < 64; place++) {
            int x = place % 8;
            int y = place / 8;
            Checks.same("raw of " + place, camera.picture(0, x, y, x % 2 + y % 2), (double) camera.raw(0, x, y));
        }
        camera.edit(0, 5, 0);
        camera.map(3, 3, true);
        Checks.same("behind a mend", camera.picture(0, 3, 3, 2), 0.0);
    }

    private static int around(int x, int y, int colour) {
        int count = 0;
        for (int k = 0; k < 9; k++) {
            int atX = x - 1 + k % 3;
            int atY = y - 1 + k / 3;
            boolean isThere = k != 4 && atX >= 0 && atX <= 7 && atY >= 0 && atY <= 7;
            count += isThere && atX % 2 + atY % 2 == colour ? 1 : 0;
        }
        return count;
    }

    /** Each place alone hot, and what all others have of that: also in the corners and at the edges. */
    private static void around() {
        for (int hot = 0; hot < 64; hot++) {
            int hotX = hot % 8;
            int hotY = hot / 8;
            int seen = hotX % 2 + hotY % 2;
            Camera camera = Cameras.withHot(hotX, hotY);
            for (int k = 0; k < 192; k++) {
                int x = k / 3 % 8;
                int y = k / 24;
                boolean isNear = Math.abs(x - hotX) <= 1 && Math.abs(y - hotY) <= 1;
                float due = 0f;
                if (k % 3 == seen && x == hotX && y == hotY) {
                    due = 255f;
                } else if (k % 3 == seen && isNear && x % 2 + y % 2 != seen) {
                    due = 255f / around(x, y, seen);
                }
                Checks.same("hot " + hot + ", number " + k, camera.picture(0, x, y, k % 3), (double) due);
            }
        }
        Checks.same("of one", Cameras.withRaw(6, 6, 77).picture(0, 7, 7, 0), 77.0);
        Checks.same("of two", Cameras.withRaw(6, 6, 77).picture(0, 7, 6, 0), 77.0);
        Checks.same("of two reds", Cameras.withRaw(6, 6, 77, 6, 4, 20).picture(0, 6, 5, 0), 48.5);
        Checks.same("of three greens", Cameras.withRaw(1, 0, 77, 3, 0, 20, 2, 1, 30).picture(0, 2, 0, 1), (double) (127f / 3f));
        Checks.same("of four greens", Cameras.withRaw(1, 2, 77, 3, 2, 20, 2, 1, 30).picture(0, 2, 2, 1), 31.75);
    }

    private static void aroundBehindMend() {
        Camera camera = Cameras.withHot(2, 2, 4, 4);
        camera.edit(0, 5, 0);
        Checks.same("ahead of the map", camera.picture(0, 3, 3, 0), 127.5);
        camera.map(2, 2, true);
        Checks.same("a hot one mended", camera.picture(0, 3, 3, 0), 63.75);
        camera.map(4, 2, true);
        Checks.same("a dead one mended to 85, too", camera.picture(0, 3, 3, 0), 85.0);
    }

    private static void black() {
        for (int[] d : new int[][] {{0, 200}, {1, 199}, {63, 137}, {64, 136}}) {
            Camera camera = Cameras.withRaw(0, 0, 200, 1, 0, 200, 7, 7, 200);
            camera.edit(0, 0, d[0]);
            Checks.same("red less " + d[0], camera.picture(0, 0, 0, 0), (double) d[1]);
            Checks.same("green less " + d[0], camera.picture(0, 1, 0, 1), (double) d[1]);
            Checks.same("blue less " + d[0], camera.picture(0, 7, 7, 2), (double) d[1]);
        }
        Checks.same("a number that is not whole", red(0, 64), 63.5);
    }

    private static void blackAtLeast() {
        for (int[] d : new int[][] {{19, 254}, {20, 255}, {21, 255}, {64, 255}}) {
            Camera camera = Cameras.withRaw(0, 0, 20, 1, 0, 20, 7, 7, 20);
            camera.edit(0, 0, d[0]);
            Checks.same("20 less " + d[0], camera.picture(0, 0, 0, 0), 255.0 - d[1]);
            camera.edit(0, 3, 2);
            camera.edit(0, 0, 1);
            // Had it gone below 0, more than 254 would be left here.
            Checks.same("red, turned, less 1, " + d[0], camera.picture(0, 0, 0, 0), d[1] - 1.0);
            Checks.same("green, turned, less 1, " + d[0], camera.picture(0, 1, 0, 1), d[1] - 1.0);
            Checks.same("blue, turned, less 1, " + d[0], camera.picture(0, 7, 7, 2), d[1] - 1.0);
        }
        // 510 turned is -255, which is below 0f without being made less.
        Checks.same("of a number below 0", red(1, 16, 3, 2, 0, 0, 3, 2, 0, 5), 250.0);
        Checks.same("0.5 less 1", red(0, 64, 0, 63, 0, 1, 3, 2, 0, 1), 254.0);
    }

    private static void warmOrCool(int kind, int colour) {
        int[][] due = {{1, 25}, {2, 50}, {3, 75}, {4, 100}, {5, 125}, {10, 250}};
        for (int[] d : due) {
            Camera camera = Cameras.withRaw(0, 0, 100, 1, 0, 100, 7, 7, 100);
            camera.edit(0, kind, d[0]);
            Checks.same("red by " + d[0], camera.picture(0, 0, 0, 0), colour == 0 ? d[1] : 100.0);
            Checks.same("green by " + d[0], camera.picture(0, 1, 0, 1), 100.0);
            Checks.same("blue by " + d[0], camera.picture(0, 7, 7, 2), colour == 2 ? d[1] : 100.0);
        }
        Camera camera = Cameras.withRaw(0, 0, 50, 7, 7, 50);
        camera.edit(0, kind, 16);
        Checks.same("red by 16", camera.picture(0, 0, 0, 0), colour == 0 ? 200.0 : 50.0);
        Checks.same("blue by 16", camera.picture(0, 7, 7, 2), colour == 2 ? 200.0 : 50.0);
        camera.edit(0, kind, 1);
        camera.edit(0, kind, 1);
        camera.edit(0, kind, 1);
        Checks.same("red by 16, and by 1 thrice", camera.picture(0, 0, 0, 0), colour == 0 ? 3.125 : 50.0);
        Checks.same("blue by 16, and by 1 thrice", camera.picture(0, 7, 7, 2), colour == 2 ? 3.125 : 50.0);
    }

    private static void tone(int number, int raw, double due) {
        Camera camera = Cameras.withRaw(0, 0, raw, 1, 0, raw, 7, 7, raw);
        camera.edit(0, 3, number);
        Checks.same("red of " + raw, camera.picture(0, 0, 0, 0), due);
        Checks.same("green of " + raw, camera.picture(0, 1, 0, 1), due);
        Checks.same("blue of " + raw, camera.picture(0, 7, 7, 2), due);
    }

    private static void half() {
        tone(0, 0, 0.0);
        tone(0, 21, 10.5);
        tone(0, 255, 127.5);
        Checks.same("half, six times", red(3, 0, 3, 0, 3, 0, 3, 0, 3, 0, 3, 0), 1.9921875);
    }

    private static void twice() {
        tone(1, 0, 0.0);
        tone(1, 127, 254.0);
        tone(1, 128, 255.0);
        tone(1, 255, 255.0);
        Checks.same("twice of 127.5", red(3, 1), 255.0);
    }

    private static void turned() {
        tone(2, 0, 255.0);
        tone(2, 255, 0.0);
        tone(2, 100, 155.0);
        Checks.same("of 510, and again", red(1, 16, 3, 2, 3, 2, 3, 0, 3, 0), 127.5);
    }

    private static void flip() {
        Camera camera = Cameras.withRaw(0, 0, 20, 1, 0, 30, 2, 2, 40, 3, 3, 50, 4, 5, 60, 5, 6, 70, 6, 7, 80, 7, 7, 90);
        double[] before = new double[192];
        for (int k = 0; k < 192; k++) {
            before[k] = camera.picture(0, k / 3 % 8, k / 24, k % 3);
        }
        camera.edit(0, 4, 0);
        for (int k = 0; k < 192; k++) {
            int x = k / 3 % 8;
            Checks.same("number " + k, camera.picture(0, x, k / 24, k % 3), before[k + 3 * (7 - 2 * x)]);
        }
        camera.edit(0, 4, 0);
        Checks.same("twice, first column", camera.picture(0, 0, 0, 0), 20.0);
        Checks.same("twice, last column", camera.picture(0, 7, 7, 2), 90.0);
        Checks.same("twice, in the middle", camera.picture(0, 3, 3, 2), 50.0);
    }

    private static void mendNothingMore() {
        Camera camera = Cameras.withHot(2, 2, 5, 3, 4, 1);
        camera.map(2, 2, true);
        camera.map(3, 3, true);
        camera.edit(0, 5, 0);
        int once = camera.word(0);
        camera.edit(0, 5, 0);
        Checks.same("twice", camera.word(0), once);
        Checks.same("a mended one", camera.picture(0, 3, 3, 2), 63.0);
        camera.edit(0, 4, 0);
        int ahead = camera.word(0);
        camera.undo(0);
        camera.undo(0);
        camera.undo(0);
        camera.edit(0, 4, 0);
        camera.edit(0, 5, 0);
        Checks.same("behind another edit", camera.word(0), ahead);
        Checks.same("a mended one, flipped", camera.picture(0, 4, 3, 2), 63.0);
    }

    private static void heldAtTheEnd() {
        Checks.same("above 255 between two edits", red(3, 1, 3, 1, 3, 0), 255.0);
        Checks.same("above 255 between more edits", red(3, 1, 3, 1, 3, 0, 3, 0), 127.5);
        // 510, -255 and 510 again.
        Checks.same("below 0 between two edits", red(1, 16, 3, 2, 3, 2, 3, 0, 3, 0), 127.5);
        // -255 by 1 / 4 is -63.75, and that turned is 318.75.
        Checks.same("below 0 times a quarter", red(1, 16, 3, 2, 1, 1, 3, 2, 0, 64), 254.75);
    }

    private static void heldAtLeast() {
        Checks.same("just 0", red(3, 1, 3, 2), 0.0);
        Checks.same("0 of a dark one", Cameras.withHot().picture(0, 0, 0, 0), 0.0);
        // 127.5 * 2.25 is 286.875; 255 less it.
        Checks.same("-31.875", red(1, 9, 3, 2), 0.0);
        // 78.5 * 3.25 is 255.125; 255 less it.
        Checks.same("-0.125", red(0, 49, 1, 13, 3, 2), 0.0);
        Checks.same("-1785, the least by one edit", red(1, 16, 1, 16, 3, 2), 0.0);
    }

    private static void heldAtMost() {
        Checks.same("just 255", red(3, 1), 255.0);
        Checks.same("254", red(0, 0, 3, 2, 3, 1, 0, 1, 3, 2, 3, 2), 254.0);
        Checks.same("255 of a hot one", Cameras.withHot(0, 0).picture(0, 0, 0, 0), 255.0);
        // 78.5 * 3.25.
        Checks.same("255.125", red(0, 49, 1, 13), 255.0);
        Checks.same("127.5 by 4, six times", red(1, 16, 1, 16, 1, 16, 1, 16, 1, 16, 1, 16), 255.0);
    }

    /** The word of a picture that has one tone in all its numbers. */
    private static int wordOfAll(int tone) {
        int w = 7;
        for (int k = 0; k < 192; k++) {
            w = w * 31 + tone;
        }
        return w;
    }

    private static int wordOf(int... edits) {
        Camera camera = new Camera();
        Cameras.takeColours(camera, true, true, true);
        for (int k = 0; k < edits.length; k += 2) {
            camera.edit(0, edits[k], edits[k + 1]);
        }
        return camera.word(0);
    }

    private static void tonesAreCut() {
        Checks.same("255", wordOf(), wordOfAll(255));
        Checks.same("127.5", wordOf(3, 0), wordOfAll(127));
        Checks.same("63.75", wordOf(3, 0, 3, 0), wordOfAll(63));
        Checks.same("3.984375", wordOf(3, 0, 3, 0, 3, 0, 3, 0, 3, 0, 3, 0), wordOfAll(3));
        Checks.same("0.96875", wordOf(3, 0, 3, 0, 3, 0, 3, 0, 3, 0, 0, 7), wordOfAll(0));
        Checks.same("0", wordOf(3, 2), wordOfAll(0));
        Checks.same("247.03125", wordOf(3, 0, 3, 0, 3, 0, 3, 0, 3, 0, 3, 2), wordOfAll(247));
        Checks.same("above 255", wordOf(3, 1), wordOfAll(255));
        Checks.same("below 0", wordOf(3, 1, 3, 2), wordOfAll(0));
    }
}
