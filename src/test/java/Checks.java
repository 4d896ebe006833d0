import java.util.Objects;

/** What the tests share: comparing, and looking at all that can be asked of a camera. */
final class Checks {
    interface Act {
        Object run();
    }

    private static int made = 0;
    private static int wrong = 0;

    private Checks() {
    }

    static void same(String what, Object got, Object due) {
        made++;
        if (!Objects.equals(got, due)) {
            wrong++;
            System.out.println(what + " answered " + got + ", due is " + due);
        }
    }

    /** The call throws just that exception, and nothing that can be asked is another behind it. */
    static void refused(BayerGate camera, String what, Class<?> due, Act act) {
        String before = stateOf(camera);
        same(what, outcome(act), due);
        same(what + " (what it left)", stateOf(camera), before);
    }

    static void keeps(BayerGate camera, String what, Act act) {
        String before = stateOf(camera);
        act.run();
        same(what + " (what it left)", stateOf(camera), before);
    }

    static Object outcome(Act act) {
        try {
            return act.run();
        } catch (RuntimeException e) {
            return e.getClass();
        }
    }

    static String stateOf(BayerGate camera) {
        StringBuilder text = new StringBuilder();
        text.append(camera.digest());
        for (int y = 0; y < 8; y++) {
            for (int x = 0; x < 8; x++) {
                for (int what = 0; what <= 5; what++) {
                    text.append(' ').append(camera.ofPlace(x, y, what));
                }
            }
        }
        for (int frame = 0; frame < camera.many(0); frame++) {
            for (int edit = 0; edit < camera.ofFrame(frame, 2); edit++) {
                text.append(" e").append(camera.ofEdit(frame, edit, 0));
                text.append(':').append(camera.ofEdit(frame, edit, 1));
            }
            for (int other = 0; other < camera.many(0); other++) {
                text.append(" a").append(camera.apart(frame, other));
            }
        }
        for (int time = 1; time <= 64; time++) {
            text.append(" c").append(camera.wouldClip(time, 1)).append(',').append(camera.wouldClip(time, 8));
        }
        for (int target = 0; target <= 255; target += 15) {
            text.append(" b").append(camera.bestTake(target));
        }
        return text.toString();
    }

    static void end() {
        System.out.println(made + " checks, " + wrong + " wrong");
        if (wrong != 0) {
            System.exit(1);
        }
    }
}
