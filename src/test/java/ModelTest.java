import java.util.Random;

/** Long runs of calls, valid and wrong ones, on the class and on the plain camera beside it. */
public final class ModelTest {
    private static final int RUNS = 400;
    private static final int CALLS = 512;
    private static final int[] ODD = {-1, -2, 8, 9, 6, 7, 16, 17, 64, 65, 255, 256, Integer.MIN_VALUE, Integer.MAX_VALUE};

    public static void main(String[] args) {
        for (int run = 0; run < RUNS; run++) {
            // A fixed seed: the same runs each time.
            play(run, new Random(9602L + run));
        }
        Checks.end();
    }

    private static void play(int run, Random r) {
        BayerGate a = new BayerGate();
        PlainCamera b = new PlainCamera();
        // Some runs are told few wrong numbers, so that frames and files fill up early, others many.
        int wrongOf100 = run % 4 == 0 ? 10 : 2;
        for (int call = 0; call < CALLS - 1; call++) {
            step("run " + run + ", call " + call + ", ", a, b, r, wrongOf100);
        }
        Checks.same("run " + run + ", digest", a.digest(), b.digest());
    }

    private static int pick(Random r, int least, int most, int wrongOf100) {
        return r.nextInt(100) < wrongOf100 ? ODD[r.nextInt(ODD.length)] : least + r.nextInt(most - least + 1);
    }

    private static void step(String at, BayerGate a, PlainCamera b, Random r, int odd) {
        int frame = pick(r, 0, 5, odd);
        int x = pick(r, 0, 7, odd);
        int y = pick(r, 0, 7, odd);
        int toX = r.nextInt(3) == 0 ? pick(r, 0, 7, odd) : Math.max(x, Math.min(7, 7 - r.nextInt(8)));
        int toY = r.nextInt(3) == 0 ? pick(r, 0, 7, odd) : Math.max(y, Math.min(7, 7 - r.nextInt(8)));
        int time = pick(r, 1, 64, odd);
        int gain = r.nextBoolean() ? pick(r, 1, 8, odd) : 1;
        int kind = pick(r, 0, 5, odd);
        int[] most = {64, 16, 16, 2, 0, 0};
        int number = kind < 0 || kind > 5 ? 0 : pick(r, kind == 1 || kind == 2 ? 1 : 0, most[kind], odd);
        int quarter1 = pick(r, 1, 16, odd);
        int quarter2 = pick(r, 1, 16, odd);
        int quarter3 = pick(r, 1, 16, odd);
        int colour = r.nextInt(100) < odd ? -1 + 16777217 * r.nextInt(2) : r.nextInt(16777216);
        int set = r.nextInt(100) < odd ? r.nextInt() : r.nextInt(64);
        int limit = pick(r, 0, r.nextBoolean() ? 20 : 255, odd);
        boolean is = r.nextBoolean();
        int what = r.nextInt(30) == 0 ? ODD[r.nextInt(ODD.length)] : -1;
        int w2 = what == -1 ? r.nextInt(3) : what;
        switch (r.nextInt(32)) {
            case 0, 1 -> same(at + "paint", () -> a.paint(x, y, toX, toY, colour), () -> b.paint(x, y, toX, toY, colour));
            case 2 -> same(at + "lamp", () -> a.lamp(quarter1, quarter2, quarter3), () -> b.lamp(quarter1, quarter2, quarter3));
            case 3 -> same(at + "spoil", () -> a.spoil(x, y, w2), () -> b.spoil(x, y, w2));
            case 4 -> same(at + "map", () -> a.map(x, y, is), () -> b.map(x, y, is));
            case 5 -> rarely(at, a, b, r, time, gain);
            case 6 -> same(at + "merge", () -> a.merge(set, limit), () -> b.merge(set, limit));
            case 7, 8, 9 -> same(at + "edit", () -> a.edit(frame, kind, number), () -> b.edit(frame, kind, number));
            case 10, 11 -> same(at + "undo", () -> a.undo(frame), () -> b.undo(frame));
            case 12 -> rarelySaved(at, a, b, r, frame);
            case 13 -> same(at + "raw", () -> a.raw(frame, x, y), () -> b.raw(frame, x, y));
            case 14, 15, 16 -> same(at + "picture", () -> a.picture(frame, x, y, w2), () -> b.picture(frame, x, y, w2));
            case 17 -> same(at + "word", () -> a.word(frame), () -> b.word(frame));
            case 18, 19 -> {
                int w8 = what == -1 ? r.nextInt(9) : what;
                same(at + "ofFrame", () -> a.ofFrame(frame, w8), () -> b.ofFrame(frame, w8));
            }
            case 20 -> {
                int edit = pick(r, 0, 5, odd);
                int w1 = what == -1 ? r.nextInt(2) : what;
                same(at + "ofEdit", () -> a.ofEdit(frame, edit, w1), () -> b.ofEdit(frame, edit, w1));
            }
            case 21 -> {
                int zone = pick(r, 0, 3, odd);
                same(at + "zone", () -> a.zone(frame, zone), () -> b.zone(frame, zone));
            }
            case 22 -> same(at + "meter", () -> a.meter(frame), () -> b.meter(frame));
            case 23, 24 -> {
                int w3 = what == -1 ? r.nextInt(4) : what;
                same(at + "ofFile", () -> a.ofFile(frame, w3), () -> b.ofFile(frame, w3));
            }
            case 25 -> {
                int w5 = what == -1 ? r.nextInt(6) : what;
                same(at + "ofPlace", () -> a.ofPlace(x, y, w5), () -> b.ofPlace(x, y, w5));
            }
            case 26 -> {
                int w6 = what == -1 ? r.nextInt(7) : what;
                same(at + "many", () -> a.many(w6), () -> b.many(w6));
            }
            case 27 -> {
                int other = pick(r, 0, 5, odd);
                same(at + "apart", () -> a.apart(frame, other), () -> b.apart(frame, other));
            }
            case 28 -> same(at + "wouldClip", () -> a.wouldClip(time, gain), () -> b.wouldClip(time, gain));
            case 29 -> same(at + "bestTake", () -> a.bestTake(limit), () -> b.bestTake(limit));
            case 30 -> {
                int white = what == -1 ? 1 + r.nextInt(2) : what;
                same(at + "bestWhite", () -> a.bestWhite(frame, white), () -> b.bestWhite(frame, white));
            }
            default -> same(at + "digest", a::digest, b::digest);
        }
    }

    private static void rarely(String at, BayerGate a, PlainCamera b, Random r, int time, int gain) {
        // The scene changes much between two frames of a run, and a merge finds room, too.
        if (r.nextInt(3) == 0 || b.many(0) < 2) {
            same(at + "take", () -> a.take(time, gain), () -> b.take(time, gain));
        }
    }

    private static void rarelySaved(String at, BayerGate a, PlainCamera b, Random r, int frame) {
        if (r.nextInt(2) == 0) {
            same(at + "save", () -> a.save(frame), () -> b.save(frame));
        }
    }

    private static void same(String what, Checks.Act got, Checks.Act due) {
        Checks.same(what, Checks.outcome(got), Checks.outcome(due));
    }
}
