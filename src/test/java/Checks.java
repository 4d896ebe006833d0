import java.util.Objects;

/** What the tests share: comparing, and looking at all that can be asked of a camera. */
final class Checks {
    interface Act {
        Object run();
    }

    interface Told {
        Object told(Camera camera, int number);
    }

    interface ToldPlace {
        Object told(Camera camera, int x, int y);
    }

    private static int made = 0;
    private static int wrong = 0;
    private static String about = "";

    private Checks() {
    }

    /** What stands ahead of each line that tells a wrong answer. */
    static void about(String text) {
        about = text;
    }

    static int made() {
        return made;
    }

    static void same(String what, Object got, Object due) {
        made++;
        if (!Objects.equals(got, due)) {
            wrong++;
            System.out.println(about + what + " answered " + got + ", due is " + due);
        }
    }

    /** The call throws just that exception, and nothing that can be asked is another behind it. */
    static void refused(Camera camera, String what, Class<?> due, Camera.Deed deed) {
        Camera told = camera.copy();
        same(what, outcome(() -> deed.done(told)), due);
        same(what + " (what it left)", stateBehind(camera, deed), stateBehind(camera, c -> null));
    }

    /** The call answers, and nothing that can be asked is another behind it. */
    static void keeps(Camera camera, String what, Camera.Deed deed) {
        Camera told = camera.copy();
        answered(what, outcome(() -> deed.done(told)));
        same(what + " (what it left)", stateBehind(camera, deed), stateBehind(camera, c -> null));
    }

    /** The least and the greatest number are taken; those beyond on either side are refused. */
    static void range(Camera camera, String what, int least, int most, Class<?> due, Told told) {
        for (int number : new int[] {least, most}) {
            Camera copy = camera.copy();
            answered(what + " " + number, outcome(() -> told.told(copy, number)));
        }
        for (int number : new int[] {least - 1, most + 1, Integer.MIN_VALUE, Integer.MAX_VALUE}) {
            refused(camera, what + " " + number, due, c -> told.told(c, number));
        }
    }

    /** As range, for both numbers of a place. */
    static void places(Camera camera, String what, ToldPlace told) {
        range(camera, what + " x", 0, 7, Cameras.INDEX, (c, v) -> told.told(c, v, 0));
        range(camera, what + " y", 0, 7, Cameras.INDEX, (c, v) -> told.told(c, 0, v));
        range(camera, what + " x at the other end", 0, 7, Cameras.INDEX, (c, v) -> told.told(c, v, 7));
        range(camera, what + " y at the other end", 0, 7, Cameras.INDEX, (c, v) -> told.told(c, 7, v));
    }

    /** As range, for a frame's number: where there is none, one, some, and as many as there can be. */
    static void frames(String what, Told told) {
        for (int number : new int[] {0, -1, 5}) {
            refused(new Camera(), what + " " + number + " of none", Cameras.INDEX, c -> told.told(c, number));
        }
        Camera one = new Camera();
        one.take(1, 1);
        range(one, what + " of one", 0, 0, Cameras.INDEX, told);
        range(Cameras.rich(), what + " of three", 0, 2, Cameras.INDEX, told);
        range(Cameras.full(), what + " of six", 0, 5, Cameras.INDEX, told);
    }

    private static void answered(String what, Object outcome) {
        same(what + " gives " + outcome + ", and that is a number", outcome instanceof Number, true);
    }

    static Object outcome(Act act) {
        try {
            return act.run();
        } catch (RuntimeException e) {
            return e.getClass();
        }
    }

    /** All that can be asked behind the deed; two copies, as one has not calls enough for it. */
    static String stateBehind(Camera camera, Camera.Deed deed) {
        Camera one = camera.copy();
        outcome(() -> deed.done(one));
        Camera other = camera.copy();
        outcome(() -> deed.done(other));
        return placesOf(one) + framesOf(other) + lightOf(other);
    }

    private static String placesOf(Camera camera) {
        StringBuilder text = new StringBuilder();
        text.append(camera.digest());
        for (int place = 0; place < 64; place++) {
            for (int what : new int[] {0, 1, 2, 4, 5}) {
                text.append(' ').append(camera.ofPlace(place % 8, place / 8, what));
            }
        }
        return text.toString();
    }

    private static String framesOf(Camera camera) {
        StringBuilder text = new StringBuilder();
        int frames = camera.many(0);
        for (int frame = 0; frame < frames; frame++) {
            int edits = camera.ofFrame(frame, 2);
            for (int edit = 0; edit < edits; edit++) {
                text.append(" e").append(camera.ofEdit(frame, edit, 0));
                text.append(':').append(camera.ofEdit(frame, edit, 1));
            }
            for (int other = 0; other < frame; other++) {
                text.append(" a").append(camera.apart(frame, other));
            }
        }
        return text.toString();
    }

    /** The lamp can't be asked; so each colour is painted alone, and its clipping looked at. */
    private static String lightOf(Camera camera) {
        StringBuilder text = new StringBuilder();
        for (int place = 0; place < 16; place++) {
            camera.spoil(place % 8, place / 8, 0);
        }
        for (int colour : new int[] {255, 255 * 256, 255 * 65536}) {
            camera.paint(0, 0, 7, 7, colour);
            for (int time = 1; time <= 64; time += time < 24 ? 1 : 8) {
                text.append(" c").append(camera.wouldClip(time, 1));
            }
        }
        text.append(' ').append(outcome(() -> camera.take(5, 3))).append(' ').append(camera.digest());
        return text.toString();
    }

    static void end() {
        System.out.println(made + " checks, " + wrong + " wrong");
        if (wrong != 0) {
            System.exit(1);
        }
    }
}
