import java.util.ArrayList;
import java.util.List;

/**
 * The document told a second time, in another way: nothing is kept but what was told, and each
 * answer is reckoned place by place from that. ModelTest sets it beside the class.
 */
final class PlainCamera {
    private record Edit(int kind, int number) {
    }

    private static final class Shot {
        int[][] raw = new int[8][8];
        int time;
        int gain;
        int ghosts;
        List<Edit> edits = new ArrayList<>();
    }

    private record Kept(int frame, int version, List<Edit> edits) {
    }

    private final int[][][] scene = new int[8][8][3];
    private final int[] quarters = {4, 4, 4};
    private final int[][] how = new int[8][8];
    private final boolean[][] mapped = new boolean[8][8];
    private final List<Shot> shots = new ArrayList<>();
    private final List<Kept> kept = new ArrayList<>();
    private int draw = 0;

    int paint(int x, int y, int toX, int toY, int colour) {
        index(in(x, 0, 7) && in(y, 0, 7) && in(toX, 0, 7) && in(toY, 0, 7));
        argument(toX >= x && toY >= y && in(colour, 0, 0xffffff));
        int count = 0;
        for (int a = 0; a < 8; a++) {
            for (int b = 0; b < 8; b++) {
                if (in(a, x, toX) && in(b, y, toY)) {
                    scene[a][b] = new int[] {colour & 255, colour >> 8 & 255, colour >> 16 & 255};
                    count++;
                }
            }
        }
        return count;
    }

    int lamp(int red, int green, int blue) {
        argument(in(red, 1, 16) && in(green, 1, 16) && in(blue, 1, 16));
        int before = quarters[1];
        quarters[0] = red;
        quarters[1] = green;
        quarters[2] = blue;
        return before;
    }

    int spoil(int x, int y, int newHow) {
        index(in(x, 0, 7) && in(y, 0, 7));
        argument(in(newHow, 0, 2));
        int before = how[x][y];
        how[x][y] = newHow;
        return before;
    }

    int map(int x, int y, boolean is) {
        index(in(x, 0, 7) && in(y, 0, 7));
        mapped[x][y] = is;
        return many(2);
    }

    int take(int time, int gain) {
        argument(in(time, 1, 64) && in(gain, 1, 8));
        state(shots.size() < 6);
        shots.add(shoot(time, gain));
        for (int k = 0; k < 64; k++) {
            draw = (2 * draw + 5) % 61;
        }
        return shots.size() - 1;
    }

    private Shot shoot(int time, int gain) {
        Shot shot = new Shot();
        shot.time = time;
        shot.gain = gain;
        int d = draw;
        for (int k = 0; k < 64; k++) {
            int x = k % 8;
            int y = k / 8;
            d = (2 * d + 5) % 61;
            int c = seen(x, y);
            float light = (float) scene[x][y][c] * (quarters[c] / 4f) * time / 16f;
            int well = light >= 255f ? 255 : (int) Math.floor(light);
            int raw = 16 + well * gain + (d % 8) - 4;
            raw = raw < 0 ? 0 : raw > 255 ? 255 : raw;
            shot.raw[x][y] = how[x][y] == 0 ? raw : how[x][y] == 1 ? 0 : 255;
        }
        return shot;
    }

    int merge(int frames, int limit) {
        List<Shot> set = new ArrayList<>();
        for (int k = 0; k < 32; k++) {
            if ((frames & 1 << k) != 0) {
                argument(k < shots.size());
                set.add(shots.get(k));
            }
        }
        argument(set.size() >= 2 && in(limit, 0, 255));
        state(shots.size() < 6);
        Shot merged = new Shot();
        merged.time = set.get(0).time;
        merged.gain = set.get(0).gain;
        for (int x = 0; x < 8; x++) {
            for (int y = 0; y < 8; y++) {
                List<Integer> good = new ArrayList<>();
                for (Shot shot : set) {
                    if (Math.abs(shot.raw[x][y] - set.get(0).raw[x][y]) <= limit) {
                        good.add(shot.raw[x][y]);
                    }
                }
                merged.ghosts += set.size() - good.size();
                merged.raw[x][y] = good.stream().mapToInt(v -> v).sum() / good.size();
            }
        }
        shots.add(merged);
        return shots.size() - 1;
    }

    int edit(int frame, int kind, int number) {
        Shot shot = shot(frame);
        argument(in(kind, 0, 5));
        int[][] ranges = {{0, 64}, {1, 16}, {1, 16}, {0, 2}, {0, 0}, {0, 0}};
        argument(in(number, ranges[kind][0], ranges[kind][1]));
        state(shot.edits.size() < 6);
        shot.edits.add(new Edit(kind, number));
        return shot.edits.size();
    }

    int undo(int frame) {
        Shot shot = shot(frame);
        return shot.edits.isEmpty() ? -1 : shot.edits.remove(shot.edits.size() - 1).kind();
    }

    int save(int frame) {
        Shot shot = shot(frame);
        state(kept.size() < 6);
        kept.add(new Kept(frame, filesOf(frame) + 1, List.copyOf(shot.edits)));
        return kept.size() - 1;
    }

    int raw(int frame, int x, int y) {
        Shot shot = shot(frame);
        index(in(x, 0, 7) && in(y, 0, 7));
        return shot.raw[x][y];
    }

    double picture(int frame, int x, int y, int colour) {
        Shot shot = shot(frame);
        index(in(x, 0, 7) && in(y, 0, 7));
        argument(in(colour, 0, 2));
        return bounded(shot.raw, shot.edits)[x][y][colour];
    }

    int word(int frame) {
        Shot shot = shot(frame);
        return wordOf(shot.raw, shot.edits);
    }

    int ofFrame(int frame, int what) {
        Shot shot = shot(frame);
        argument(in(what, 0, 8));
        return switch (what) {
            case 0 -> shot.time;
            case 1 -> shot.gain;
            case 2 -> shot.edits.size();
            case 3 -> clipped(shot);
            case 4 -> shot.ghosts;
            case 5 -> sharp(shot);
            case 6 -> white(shot, 0);
            case 7 -> white(shot, 2);
            default -> filesOf(frame);
        };
    }

    int ofEdit(int frame, int edit, int what) {
        Shot shot = shot(frame);
        index(in(edit, 0, shot.edits.size() - 1));
        argument(in(what, 0, 1));
        return what == 0 ? shot.edits.get(edit).kind() : shot.edits.get(edit).number();
    }

    double zone(int frame, int zone) {
        Shot shot = shot(frame);
        index(in(zone, 0, 3));
        return mean(shot, zone);
    }

    double meter(int frame) {
        return meterOf(shot(frame));
    }

    int ofFile(int file, int what) {
        index(in(file, 0, kept.size() - 1));
        argument(in(what, 0, 3));
        Kept k = kept.get(file);
        return switch (what) {
            case 0 -> k.frame();
            case 1 -> k.version();
            case 2 -> k.edits().size();
            default -> wordOf(shots.get(k.frame()).raw, k.edits());
        };
    }

    int ofPlace(int x, int y, int what) {
        index(in(x, 0, 7) && in(y, 0, 7));
        argument(in(what, 0, 5));
        return what < 3 ? scene[x][y][what] : what == 3 ? seen(x, y) : what == 4 ? how[x][y] : mapped[x][y] ? 1 : 0;
    }

    int many(int what) {
        argument(in(what, 0, 6));
        int edits = shots.stream().mapToInt(s -> s.edits.size()).sum();
        int maps = 0;
        int bad = 0;
        int unknown = 0;
        for (int k = 0; k < 64; k++) {
            boolean isMapped = mapped[k / 8][k % 8];
            boolean isBad = how[k / 8][k % 8] > 0;
            maps += isMapped ? 1 : 0;
            bad += isBad ? 1 : 0;
            unknown += isBad && !isMapped ? 1 : 0;
        }
        return new int[] {shots.size(), kept.size(), maps, draw, edits, bad, unknown}[what];
    }

    double apart(int one, int other) {
        Shot a = shot(one);
        Shot b = shot(other);
        float[][][] p = bounded(a.raw, a.edits);
        float[][][] q = bounded(b.raw, b.edits);
        float most = 0f;
        for (int k = 0; k < 192; k++) {
            most = Math.max(most, Math.abs(p[k / 24][k / 3 % 8][k % 3] - q[k / 24][k / 3 % 8][k % 3]));
        }
        return most;
    }

    int wouldClip(int time, int gain) {
        argument(in(time, 1, 64) && in(gain, 1, 8));
        return clipped(shoot(time, gain));
    }

    int bestTake(int target) {
        argument(in(target, 0, 255));
        double nearest = Double.POSITIVE_INFINITY;
        for (int gain = 1; gain <= 8; gain++) {
            for (int k = 0; k <= 6; k++) {
                nearest = Math.min(nearest, Math.abs(meterOf(shoot(1 << k, gain)) - target));
            }
        }
        for (int gain = 1; gain <= 8; gain++) {
            for (int k = 0; k <= 6; k++) {
                if (Math.abs(meterOf(shoot(1 << k, gain)) - target) == nearest) {
                    return 16 * (1 << k) + gain;
                }
            }
        }
        throw new AssertionError();
    }

    int bestWhite(int frame, int kind) {
        Shot shot = shot(frame);
        argument(kind == 1 || kind == 2);
        int best = 0;
        long nearest = Long.MAX_VALUE;
        for (int n = 1; n <= 16; n++) {
            List<Edit> edits = new ArrayList<>(shot.edits);
            edits.add(new Edit(kind, n));
            long[] sums = new long[3];
            float[][][] p = bounded(shot.raw, edits);
            for (int k = 0; k < 192; k++) {
                sums[k % 3] += (int) p[k / 24][k / 3 % 8][k % 3];
            }
            long off = Math.abs(sums[1] - sums[kind == 1 ? 0 : 2]);
            if (off < nearest) {
                nearest = off;
                best = n;
            }
        }
        return best;
    }

    long digest() {
        List<Long> values = new ArrayList<>();
        for (int k = 0; k <= 6; k++) {
            values.add((long) many(k));
        }
        for (int f = 0; f < shots.size(); f++) {
            for (int k = 0; k <= 8; k++) {
                values.add((long) ofFrame(f, k));
            }
            values.add((long) word(f));
            values.add((long) (meter(f) * 32));
            for (int k = 0; k < 64; k++) {
                values.add((long) raw(f, k % 8, k / 8));
            }
        }
        for (int f = 0; f < kept.size(); f++) {
            for (int k = 0; k <= 3; k++) {
                values.add((long) ofFile(f, k));
            }
        }
        values.add((long) wouldClip(16, 1));
        long d = 9602;
        for (long v : values) {
            d = d * 31 + v;
        }
        return d;
    }

    private static int seen(int x, int y) {
        return (x & 1) + (y & 1);
    }

    private int[][] mend(int[][] raw, List<Edit> edits) {
        int[][] out = new int[8][8];
        for (int x = 0; x < 8; x++) {
            for (int y = 0; y < 8; y++) {
                out[x][y] = raw[x][y];
                if (!mapped[x][y] || edits.stream().noneMatch(e -> e.kind() == 5)) {
                    continue;
                }
                int sum = 0;
                int count = 0;
                for (int a = 0; a < 8; a++) {
                    for (int b = 0; b < 8; b++) {
                        boolean isTwoAway = a == x && Math.abs(b - y) == 2 || b == y && Math.abs(a - x) == 2;
                        if (isTwoAway && !mapped[a][b] && seen(a, b) == seen(x, y)) {
                            sum += raw[a][b];
                            count++;
                        }
                    }
                }
                if (count > 0) {
                    out[x][y] = sum / count;
                }
            }
        }
        return out;
    }

    private float[][][] bounded(int[][] raw, List<Edit> edits) {
        int[][] m = mend(raw, edits);
        float[][][] p = new float[8][8][3];
        for (int k = 0; k < 192; k++) {
            p[k / 24][k / 3 % 8][k % 3] = whole(m, k / 24, k / 3 % 8, k % 3);
        }
        for (Edit e : edits) {
            float[][][] q = new float[8][8][3];
            for (int k = 0; k < 192; k++) {
                int x = k / 24;
                int y = k / 3 % 8;
                int c = k % 3;
                q[x][y][c] = edited(p, e, x, y, c);
            }
            p = q;
        }
        for (int k = 0; k < 192; k++) {
            float v = p[k / 24][k / 3 % 8][k % 3];
            p[k / 24][k / 3 % 8][k % 3] = Math.max(0f, Math.min(255f, v));
        }
        return p;
    }

    private static float edited(float[][][] p, Edit e, int x, int y, int c) {
        float v = p[x][y][c];
        return switch (e.kind()) {
            case 0 -> Math.max(0f, v - e.number());
            case 1 -> c == 0 ? v * (e.number() / 4f) : v;
            case 2 -> c == 2 ? v * (e.number() / 4f) : v;
            case 3 -> e.number() == 0 ? v * 0.5f : e.number() == 1 ? v * 2f : 255f - v;
            case 4 -> p[7 - x][y][c];
            default -> v;
        };
    }

    private static float whole(int[][] m, int x, int y, int colour) {
        if (seen(x, y) == colour) {
            return m[x][y];
        }
        int sum = 0;
        int count = 0;
        for (int a = 0; a < 8; a++) {
            for (int b = 0; b < 8; b++) {
                if (Math.max(Math.abs(a - x), Math.abs(b - y)) == 1 && seen(a, b) == colour) {
                    sum += m[a][b];
                    count++;
                }
            }
        }
        return (float) sum / count;
    }

    private int wordOf(int[][] raw, List<Edit> edits) {
        float[][][] p = bounded(raw, edits);
        int w = 7;
        for (int y = 0; y < 8; y++) {
            for (int x = 0; x < 8; x++) {
                for (int c = 0; c < 3; c++) {
                    w = w * 31 + (int) p[x][y][c];
                }
            }
        }
        return w;
    }

    private int filesOf(int frame) {
        return (int) kept.stream().filter(k -> k.frame() == frame).count();
    }

    private static int clipped(Shot shot) {
        int count = 0;
        for (int k = 0; k < 64; k++) {
            count += shot.raw[k / 8][k % 8] == 255 ? 1 : 0;
        }
        return count;
    }

    private static int sharp(Shot shot) {
        int sum = 0;
        for (int x = 0; x < 7; x++) {
            for (int y = 0; y < 7; y++) {
                sum += (x + y) % 2 == 1 ? Math.abs(shot.raw[x][y] - shot.raw[x + 1][y + 1]) : 0;
            }
        }
        return sum;
    }

    private static int white(Shot shot, int colour) {
        int[] sums = new int[3];
        for (int k = 0; k < 64; k++) {
            sums[seen(k / 8, k % 8)] += shot.raw[k / 8][k % 8];
        }
        return sums[colour] == 0 ? 16 : Math.max(1, Math.min(16, 4 * sums[1] / (2 * sums[colour])));
    }

    private static double mean(Shot shot, int zone) {
        int sum = 0;
        for (int x = 0; x < 8; x++) {
            for (int y = 0; y < 8; y++) {
                sum += x / 4 + 2 * (y / 4) == zone && seen(x, y) == 1 ? shot.raw[x][y] : 0;
            }
        }
        return sum / 8.0;
    }

    private static double meterOf(Shot shot) {
        return (mean(shot, 0) + mean(shot, 1) + mean(shot, 2) + mean(shot, 3)) / 4.0;
    }

    private Shot shot(int frame) {
        index(in(frame, 0, shots.size() - 1));
        return shots.get(frame);
    }

    private static boolean in(int v, int least, int most) {
        return v >= least && v <= most;
    }

    private static void index(boolean is) {
        if (!is) {
            throw new IndexOutOfBoundsException();
        }
    }

    private static void argument(boolean is) {
        if (!is) {
            throw new IllegalArgumentException();
        }
    }

    private static void state(boolean is) {
        if (!is) {
            throw new IllegalStateException();
        }
    }
}
