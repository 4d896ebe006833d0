/** The inside of a camera from light to file. */
public final class BayerGate {
    private static final int NONE = -1;
    private static final int SIDE = 8;
    private static final int PLACES = SIDE * SIDE;
    private static final int ZONES = 4;

    private static final int RED = 0;
    private static final int GREEN = 1;
    private static final int BLUE = 2;
    private static final int COLOURS = 3;
    private static final int MOST_COLOUR = 16777215;

    private static final int GOOD = 0;
    private static final int DEAD = 1;
    private static final int HOT = 2;

    private static final int BLACK = 0;
    private static final int WARM = 1;
    private static final int COOL = 2;
    private static final int TONE = 3;
    private static final int FLIP = 4;
    private static final int MEND = 5;

    private static final int BRIGHTEST = 255;
    private static final int MOST_QUARTERS = 16;
    private static final int MOST_TIME = 64;
    private static final int MOST_GAIN = 8;
    private static final int MOST_FRAMES = 6;
    private static final int MOST_EDITS = 6;
    private static final int MOST_FILES = 6;

    private final Scene scene = new Scene();
    private final Sensor sensor = new Sensor();
    private final Frame[] frameRow = new Frame[MOST_FRAMES];
    private final StoredFile[] fileRow = new StoredFile[MOST_FILES];
    private int frameCount = 0;
    private int fileCount = 0;

    // Made once and used again by every call, so that no call makes rows of its own.
    private final Frame trial = new Frame();
    private final Picture developed = new Picture();
    private final Picture compared = new Picture();

    public BayerGate() {
        for (int k = 0; k < MOST_FRAMES; k++) {
            frameRow[k] = new Frame();
        }
        for (int k = 0; k < MOST_FILES; k++) {
            fileRow[k] = new StoredFile();
        }
    }

    // ---- what is told

    public int paint(int x, int y, int toX, int toY, int colour)
            throws IndexOutOfBoundsException, IllegalArgumentException {
        needPlace(x, y);
        needPlace(toX, toY);
        if (toX < x || toY < y) {
            throw new IllegalArgumentException("the last place lies ahead of the first");
        }
        needRange(colour, 0, MOST_COLOUR);
        for (int atY = y; atY <= toY; atY++) {
            for (int atX = x; atX <= toX; atX++) {
                scene.colourPlace(placeOf(atX, atY), colour);
            }
        }
        return (toX - x + 1) * (toY - y + 1);
    }

    public int lamp(int red, int green, int blue) throws IllegalArgumentException {
        needRange(red, 1, MOST_QUARTERS);
        needRange(green, 1, MOST_QUARTERS);
        needRange(blue, 1, MOST_QUARTERS);
        int before = scene.greenQuarters();
        scene.light(red, green, blue);
        return before;
    }

    public int spoil(int x, int y, int how) throws IndexOutOfBoundsException, IllegalArgumentException {
        needPlace(x, y);
        needRange(how, GOOD, HOT);
        int place = placeOf(x, y);
        int before = sensor.howIs(place);
        sensor.setHow(place, how);
        return before;
    }

    public int map(int x, int y, boolean is) throws IndexOutOfBoundsException {
        needPlace(x, y);
        sensor.setMapped(placeOf(x, y), is);
        return sensor.countMapped();
    }

    // ---- frames and edits

    public int take(int time, int gain) throws IllegalArgumentException, IllegalStateException {
        needExposure(time, gain);
        needRoom(frameCount, MOST_FRAMES);
        int number = frameCount;
        sensor.advance(sensor.expose(scene, time, gain, frameRow[number]));
        frameCount = number + 1;
        return number;
    }

    public int merge(int frames, int limit) throws IllegalArgumentException, IllegalStateException {
        needRange(frames, 0, (1 << frameCount) - 1);
        if (Integer.bitCount(frames) < 2) {
            throw new IllegalArgumentException("fewer than two frames");
        }
        needRange(limit, 0, BRIGHTEST);
        needRoom(frameCount, MOST_FRAMES);
        int number = frameCount;
        putTogether(frames, limit, frameRow[number]);
        frameCount = number + 1;
        return number;
    }

    public int edit(int frame, int kind, int number)
            throws IndexOutOfBoundsException, IllegalArgumentException, IllegalStateException {
        needFrame(frame);
        needRange(kind, BLACK, MEND);
        needRange(number, leastNumber(kind), mostNumber(kind));
        EditRow edits = frameRow[frame].edits;
        needRoom(edits.count(), MOST_EDITS);
        edits.append(kind, number);
        return edits.count();
    }

    public int undo(int frame) throws IndexOutOfBoundsException {
        needFrame(frame);
        return frameRow[frame].edits.takeBack();
    }

    public int save(int frame) throws IndexOutOfBoundsException, IllegalStateException {
        needFrame(frame);
        needRoom(fileCount, MOST_FILES);
        int number = fileCount;
        fileRow[number].keep(frame, countFilesOf(frame) + 1, frameRow[frame].edits);
        fileCount = number + 1;
        return number;
    }

    // ---- what one asks

    public int raw(int frame, int x, int y) throws IndexOutOfBoundsException {
        needFrame(frame);
        needPlace(x, y);
        return frameRow[frame].rawRow[placeOf(x, y)];
    }

    public double picture(int frame, int x, int y, int colour)
            throws IndexOutOfBoundsException, IllegalArgumentException {
        needFrame(frame);
        needPlace(x, y);
        needRange(colour, RED, BLUE);
        developFrame(frame, developed);
        return developed.numbers[Picture.indexOf(placeOf(x, y), colour)];
    }

    public int word(int frame) throws IndexOutOfBoundsException {
        needFrame(frame);
        return wordBehind(frame, frameRow[frame].edits);
    }

    public int ofFrame(int frame, int what) throws IndexOutOfBoundsException, IllegalArgumentException {
        needFrame(frame);
        needRange(what, 0, 8);
        Frame asked = frameRow[frame];
        switch (what) {
            case 0:
                return asked.time;
            case 1:
                return asked.gain;
            case 2:
                return asked.edits.count();
            case 3:
                return asked.countClipped();
            case 4:
                return asked.ghosts;
            case 5:
                return asked.sharpness();
            case 6:
                return asked.whiteOf(RED);
            case 7:
                return asked.whiteOf(BLUE);
            default:
                return countFilesOf(frame);
        }
    }

    public int ofEdit(int frame, int edit, int what) throws IndexOutOfBoundsException, IllegalArgumentException {
        needFrame(frame);
        EditRow edits = frameRow[frame].edits;
        needIndex(edit, edits.count());
        needRange(what, 0, 1);
        return what == 0 ? edits.kinds[edit] : edits.numbers[edit];
    }

    public double zone(int frame, int zone) throws IndexOutOfBoundsException {
        needFrame(frame);
        needIndex(zone, ZONES);
        return frameRow[frame].meanOfZone(zone);
    }

    public double meter(int frame) throws IndexOutOfBoundsException {
        needFrame(frame);
        return frameRow[frame].meanOfZones();
    }

    public int ofFile(int file, int what) throws IndexOutOfBoundsException, IllegalArgumentException {
        needIndex(file, fileCount);
        needRange(what, 0, 3);
        StoredFile asked = fileRow[file];
        switch (what) {
            case 0:
                return asked.frame;
            case 1:
                return asked.version;
            case 2:
                return asked.edits.count();
            default:
                return wordBehind(asked.frame, asked.edits);
        }
    }

    public int ofPlace(int x, int y, int what) throws IndexOutOfBoundsException, IllegalArgumentException {
        needPlace(x, y);
        needRange(what, 0, 5);
        int place = placeOf(x, y);
        switch (what) {
            case 0:
            case 1:
            case 2:
                return scene.shade(place, what);
            case 3:
                return colourSeen(x, y);
            case 4:
                return sensor.howIs(place);
            default:
                return sensor.isMapped(place) ? 1 : 0;
        }
    }

    public int many(int what) throws IllegalArgumentException {
        needRange(what, 0, 6);
        switch (what) {
            case 0:
                return frameCount;
            case 1:
                return fileCount;
            case 2:
                return sensor.countMapped();
            case 3:
                return sensor.draw;
            case 4:
                return countEdits();
            case 5:
                return sensor.countSpoilt(true);
            default:
                return sensor.countSpoilt(false);
        }
    }

    public double apart(int one, int other) throws IndexOutOfBoundsException {
        needFrame(one);
        needFrame(other);
        developFrame(one, developed);
        developFrame(other, compared);
        return developed.farthestFrom(compared);
    }

    // ---- what would be (nothing is changed)

    public int wouldClip(int time, int gain) throws IllegalArgumentException {
        needExposure(time, gain);
        sensor.expose(scene, time, gain, trial);
        return trial.countClipped();
    }

    public int bestTake(int target) throws IllegalArgumentException {
        needRange(target, 0, BRIGHTEST);
        int best = NONE;
        double bestOff = 0.0;
        for (int gain = 1; gain <= MOST_GAIN; gain++) {
            for (int time = 1; time <= MOST_TIME; time = 2 * time) {
                sensor.expose(scene, time, gain, trial);
                double off = trial.meanOfZones() - target;
                off = off < 0.0 ? -off : off;
                if (best == NONE || off < bestOff) {
                    best = 16 * time + gain;
                    bestOff = off;
                }
            }
        }
        return best;
    }

    public int bestWhite(int frame, int kind) throws IndexOutOfBoundsException, IllegalArgumentException {
        needFrame(frame);
        needRange(kind, WARM, COOL);
        Frame asked = frameRow[frame];
        // Left unbounded: the asked edit would come ahead of the bounds, too.
        developed.compose(asked.rawRow, asked.edits, sensor.mapped);
        int colour = kind == WARM ? RED : BLUE;
        int greens = developed.sumTones(GREEN, 1f);
        int best = NONE;
        int bestOff = 0;
        for (int number = leastNumber(kind); number <= mostNumber(kind); number++) {
            int off = Math.abs(greens - developed.sumTones(colour, number / 4f));
            if (best == NONE || off < bestOff) {
                best = number;
                bestOff = off;
            }
        }
        return best;
    }

    public long digest() {
        long d = 9602L;
        for (int what = 0; what <= 6; what++) {
            d = d * 31L + many(what);
        }
        for (int frame = 0; frame < frameCount; frame++) {
            for (int what = 0; what <= 8; what++) {
                d = d * 31L + ofFrame(frame, what);
            }
            d = d * 31L + word(frame);
            d = d * 31L + (long) (meter(frame) * 32.0);
            int[] rawRow = frameRow[frame].rawRow;
            for (int place = 0; place < PLACES; place++) {
                d = d * 31L + rawRow[place];
            }
        }
        for (int file = 0; file < fileCount; file++) {
            for (int what = 0; what <= 3; what++) {
                d = d * 31L + ofFile(file, what);
            }
        }
        return d * 31L + wouldClip(16, 1);
    }

    // ---- what the calls share

    private static void needIndex(int index, int count) {
        if (index < 0 || index >= count) {
            throw new IndexOutOfBoundsException("there is no such number");
        }
    }

    private static void needPlace(int x, int y) {
        if (!isPlace(x, y)) {
            throw new IndexOutOfBoundsException("there is no such place");
        }
    }

    private void needFrame(int frame) {
        if (frame < 0 || frame >= frameCount) {
            throw new IndexOutOfBoundsException("there is no such frame");
        }
    }

    private static void needRange(int number, int least, int most) {
        if (number < least || number > most) {
            throw new IllegalArgumentException("the number is out of its range");
        }
    }

    private static void needExposure(int time, int gain) {
        needRange(time, 1, MOST_TIME);
        needRange(gain, 1, MOST_GAIN);
    }

    private static void needRoom(int count, int most) {
        if (count >= most) {
            throw new IllegalStateException("there is no room for one more");
        }
    }

    private static boolean isPlace(int x, int y) {
        return x >= 0 && x < SIDE && y >= 0 && y < SIDE;
    }

    private static int placeOf(int x, int y) {
        return SIDE * y + x;
    }

    private static int colourSeen(int x, int y) {
        if (x % 2 != y % 2) {
            return GREEN;
        }
        return x % 2 == 0 ? RED : BLUE;
    }

    private static int leastNumber(int kind) {
        return kind == WARM || kind == COOL ? 1 : 0;
    }

    private static int mostNumber(int kind) {
        switch (kind) {
            case BLACK:
                return 64;
            case WARM:
            case COOL:
                return 16;
            case TONE:
                return 2;
            default:
                return 0;
        }
    }

    private int countFilesOf(int frame) {
        int count = 0;
        for (int k = 0; k < fileCount; k++) {
            if (fileRow[k].frame == frame) {
                count++;
            }
        }
        return count;
    }

    private int countEdits() {
        int count = 0;
        for (int k = 0; k < frameCount; k++) {
            count += frameRow[k].edits.count();
        }
        return count;
    }

    private void developFrame(int frame, Picture into) {
        Frame asked = frameRow[frame];
        into.compose(asked.rawRow, asked.edits, sensor.mapped);
        into.bound();
    }

    private int wordBehind(int frame, EditRow edits) {
        developed.compose(frameRow[frame].rawRow, edits, sensor.mapped);
        developed.bound();
        return developed.sumUp();
    }

    private int smallestOf(int set) {
        int k = 0;
        while (k < MOST_FRAMES - 1 && !isIn(set, k)) {
            k++;
        }
        return k;
    }

    private static boolean isIn(int set, int k) {
        return (set >> k & 1) == 1;
    }

    private void putTogether(int set, int limit, Frame into) {
        Frame first = frameRow[smallestOf(set)];
        int ghosts = 0;
        for (int place = 0; place < PLACES; place++) {
            int like = first.rawRow[place];
            int sum = 0;
            int count = 0;
            for (int k = 0; k < frameCount; k++) {
                if (!isIn(set, k)) {
                    continue;
                }
                int own = frameRow[k].rawRow[place];
                if (Math.abs(own - like) > limit) {
                    ghosts++;
                } else {
                    sum += own;
                    count++;
                }
            }
            into.rawRow[place] = count == 0 ? like : sum / count;
        }
        into.time = first.time;
        into.gain = first.gain;
        into.ghosts = ghosts;
    }

    /** What stands before the camera, and the lamp that lights it. */
    private static final class Scene {
        private final int[] shades = new int[PLACES * COLOURS];
        private final float[] factors = new float[COLOURS];
        private int quartersOfGreen = 4;

        Scene() {
            for (int colour = 0; colour < COLOURS; colour++) {
                factors[colour] = 1f;
            }
        }

        void colourPlace(int place, int colour) {
            int rest = colour;
            for (int k = 0; k < COLOURS; k++) {
                shades[COLOURS * place + k] = rest % 256;
                rest = rest / 256;
            }
        }

        int shade(int place, int colour) {
            return shades[COLOURS * place + colour];
        }

        void light(int red, int green, int blue) {
            factors[RED] = red / 4f;
            factors[GREEN] = green / 4f;
            factors[BLUE] = blue / 4f;
            quartersOfGreen = green;
        }

        int greenQuarters() {
            return quartersOfGreen;
        }

        float lightAt(int place, int colour, int time) {
            return (float) shade(place, colour) * factors[colour] * time / 16f;
        }
    }

    /** How the places are, what the camera knows of it, and the draw of the noise. */
    private static final class Sensor {
        private final int[] hows = new int[PLACES];
        private final boolean[] mapped = new boolean[PLACES];
        private int draw = 0;

        int howIs(int place) {
            return hows[place];
        }

        void setHow(int place, int how) {
            hows[place] = how;
        }

        boolean isMapped(int place) {
            return mapped[place];
        }

        void setMapped(int place, boolean is) {
            mapped[place] = is;
        }

        int countMapped() {
            int count = 0;
            for (int place = 0; place < PLACES; place++) {
                if (mapped[place]) {
                    count++;
                }
            }
            return count;
        }

        int countSpoilt(boolean withMapped) {
            int count = 0;
            for (int place = 0; place < PLACES; place++) {
                if (hows[place] != GOOD && (withMapped || !mapped[place])) {
                    count++;
                }
            }
            return count;
        }

        void advance(int newDraw) {
            draw = newDraw;
        }

        /** Fills a frame and answers the draw behind it; the sensor's own stays, as a trial must not move it. */
        int expose(Scene scene, int time, int gain, Frame into) {
            int drawn = draw;
            for (int y = 0; y < SIDE; y++) {
                for (int x = 0; x < SIDE; x++) {
                    int place = placeOf(x, y);
                    drawn = (2 * drawn + 5) % 61;
                    float light = scene.lightAt(place, colourSeen(x, y), time);
                    into.rawRow[place] = rawOf(hows[place], light, gain, drawn);
                }
            }
            into.time = time;
            into.gain = gain;
            return drawn;
        }

        private static int rawOf(int how, float light, int gain, int drawn) {
            if (how == DEAD) {
                return 0;
            }
            if (how == HOT) {
                return BRIGHTEST;
            }
            int well = Math.min((int) light, BRIGHTEST);
            return Math.max(0, Math.min(BRIGHTEST, 16 + well * gain + drawn % 8 - 4));
        }
    }

    /** Edits in the order in which they were told. */
    private static final class EditRow {
        private final int[] kinds = new int[MOST_EDITS];
        private final int[] numbers = new int[MOST_EDITS];
        private int length = 0;

        int count() {
            return length;
        }

        void append(int kind, int number) {
            if (length < MOST_EDITS) {
                kinds[length] = kind;
                numbers[length] = number;
                length++;
            }
        }

        int takeBack() {
            if (length == 0) {
                return NONE;
            }
            length--;
            return kinds[length];
        }

        void copyFrom(EditRow other) {
            for (int k = 0; k < MOST_EDITS; k++) {
                kinds[k] = other.kinds[k];
                numbers[k] = other.numbers[k];
            }
            length = other.length;
        }

        boolean hasMend() {
            for (int k = 0; k < length; k++) {
                if (kinds[k] == MEND) {
                    return true;
                }
            }
            return false;
        }
    }

    /** A frame, taken or put together, and its edits. */
    private static final class Frame {
        private final int[] rawRow = new int[PLACES];
        private final EditRow edits = new EditRow();
        private int time = 0;
        private int gain = 0;
        private int ghosts = 0;

        int countClipped() {
            int count = 0;
            for (int place = 0; place < PLACES; place++) {
                if (rawRow[place] == BRIGHTEST) {
                    count++;
                }
            }
            return count;
        }

        int sharpness() {
            int sum = 0;
            for (int y = 0; y < SIDE - 1; y++) {
                for (int x = 0; x < SIDE - 1; x++) {
                    if (colourSeen(x, y) == GREEN) {
                        sum += Math.abs(rawRow[placeOf(x, y)] - rawRow[placeOf(x + 1, y + 1)]);
                    }
                }
            }
            return sum;
        }

        int whiteOf(int colour) {
            int sum = sumSeen(colour);
            if (sum == 0) {
                return 16;
            }
            return Math.max(1, Math.min(16, 4 * sumSeen(GREEN) / (2 * sum)));
        }

        private int sumSeen(int colour) {
            int sum = 0;
            for (int y = 0; y < SIDE; y++) {
                for (int x = 0; x < SIDE; x++) {
                    if (colourSeen(x, y) == colour) {
                        sum += rawRow[placeOf(x, y)];
                    }
                }
            }
            return sum;
        }

        double meanOfZone(int zone) {
            int fromX = zone % 2 * 4;
            int fromY = zone / 2 * 4;
            int sum = 0;
            for (int y = fromY; y < fromY + 4; y++) {
                for (int x = fromX; x < fromX + 4; x++) {
                    if (colourSeen(x, y) == GREEN) {
                        sum += rawRow[placeOf(x, y)];
                    }
                }
            }
            return sum / 8.0;
        }

        double meanOfZones() {
            double sum = 0.0;
            for (int zone = 0; zone < ZONES; zone++) {
                sum += meanOfZone(zone);
            }
            return sum / 4.0;
        }
    }

    /** A frame's number, and its edits as they were when it was saved. */
    private static final class StoredFile {
        private final EditRow edits = new EditRow();
        private int frame = 0;
        private int version = 0;

        void keep(int ofFrame, int asVersion, EditRow asTheyAre) {
            frame = ofFrame;
            version = asVersion;
            edits.copyFrom(asTheyAre);
        }
    }

    /** Three numbers in each place, made of raw numbers and edits. */
    private static final class Picture {
        private final float[] numbers = new float[PLACES * COLOURS];
        private final int[] mended = new int[PLACES];

        static int indexOf(int place, int colour) {
            return COLOURS * place + colour;
        }

        /** All that goes ahead of the bounds at the end. */
        void compose(int[] rawRow, EditRow edits, boolean[] mapped) {
            mendAll(rawRow, mapped, edits.hasMend());
            makeWhole();
            for (int k = 0; k < edits.count(); k++) {
                applyEdit(edits.kinds[k], edits.numbers[k]);
            }
        }

        void bound() {
            for (int k = 0; k < numbers.length; k++) {
                numbers[k] = bounded(numbers[k]);
            }
        }

        /** A number of the picture: places y by y and x by x, colour by colour, as the numbers lie. */
        int sumUp() {
            int w = 7;
            for (int k = 0; k < numbers.length; k++) {
                w = w * 31 + (int) numbers[k];
            }
            return w;
        }

        int sumTones(int colour, float times) {
            int sum = 0;
            for (int place = 0; place < PLACES; place++) {
                sum += (int) bounded(numbers[indexOf(place, colour)] * times);
            }
            return sum;
        }

        float farthestFrom(Picture other) {
            float farthest = 0f;
            for (int k = 0; k < numbers.length; k++) {
                float off = numbers[k] - other.numbers[k];
                off = off < 0f ? -off : off;
                farthest = off > farthest ? off : farthest;
            }
            return farthest;
        }

        private static float bounded(float number) {
            if (number > 255f) {
                return 255f;
            }
            return number > 0f ? number : 0f;
        }

        private void mendAll(int[] rawRow, boolean[] mapped, boolean isMending) {
            for (int y = 0; y < SIDE; y++) {
                for (int x = 0; x < SIDE; x++) {
                    int place = placeOf(x, y);
                    boolean isMended = isMending && mapped[place];
                    mended[place] = isMended ? mendedAt(rawRow, mapped, x, y) : rawRow[place];
                }
            }
        }

        /** Two away along a row or a column the sensor always sees the same colour. */
        private static int mendedAt(int[] rawRow, boolean[] mapped, int x, int y) {
            int sum = 0;
            int count = 0;
            for (int k = 0; k < 4; k++) {
                int far = k % 2 == 0 ? -2 : 2;
                int atX = k < 2 ? x + far : x;
                int atY = k < 2 ? y : y + far;
                if (isPlace(atX, atY) && !mapped[placeOf(atX, atY)]) {
                    sum += rawRow[placeOf(atX, atY)];
                    count++;
                }
            }
            return count == 0 ? rawRow[placeOf(x, y)] : sum / count;
        }

        private void makeWhole() {
            for (int y = 0; y < SIDE; y++) {
                for (int x = 0; x < SIDE; x++) {
                    int place = placeOf(x, y);
                    int seen = colourSeen(x, y);
                    for (int colour = 0; colour < COLOURS; colour++) {
                        float number = colour == seen ? (float) mended[place] : meanAround(x, y, colour);
                        numbers[indexOf(place, colour)] = number;
                    }
                }
            }
        }

        /** The place itself sees another colour, so it is never counted here. */
        private float meanAround(int x, int y, int colour) {
            int sum = 0;
            int count = 0;
            for (int atY = y - 1; atY <= y + 1; atY++) {
                for (int atX = x - 1; atX <= x + 1; atX++) {
                    if (isPlace(atX, atY) && colourSeen(atX, atY) == colour) {
                        sum += mended[placeOf(atX, atY)];
                        count++;
                    }
                }
            }
            return count == 0 ? 0f : (float) sum / count;
        }

        private void applyEdit(int kind, int number) {
            switch (kind) {
                case BLACK:
                    darken(number);
                    break;
                case WARM:
                    scaleColour(RED, number / 4f);
                    break;
                case COOL:
                    scaleColour(BLUE, number / 4f);
                    break;
                case TONE:
                    changeTone(number);
                    break;
                case FLIP:
                    turnOver();
                    break;
                default:
                    // A mend has been done ahead of the colours.
                    break;
            }
        }

        private void darken(int black) {
            for (int k = 0; k < numbers.length; k++) {
                float less = numbers[k] - black;
                numbers[k] = less > 0f ? less : 0f;
            }
        }

        private void scaleColour(int colour, float times) {
            for (int place = 0; place < PLACES; place++) {
                numbers[indexOf(place, colour)] = numbers[indexOf(place, colour)] * times;
            }
        }

        private void changeTone(int tone) {
            for (int k = 0; k < numbers.length; k++) {
                if (tone == 0) {
                    numbers[k] = numbers[k] * 0.5f;
                } else if (tone == 1) {
                    numbers[k] = numbers[k] * 2f;
                } else {
                    numbers[k] = 255f - numbers[k];
                }
            }
        }

        private void turnOver() {
            for (int y = 0; y < SIDE; y++) {
                for (int x = 0; x < SIDE / 2; x++) {
                    for (int colour = 0; colour < COLOURS; colour++) {
                        int left = indexOf(placeOf(x, y), colour);
                        int right = indexOf(placeOf(SIDE - 1 - x, y), colour);
                        float kept = numbers[left];
                        numbers[left] = numbers[right];
                        numbers[right] = kept;
                    }
                }
            }
        }
    }
}
