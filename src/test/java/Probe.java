import java.util.ArrayList;
import java.util.List;

/**
 * All that can be asked of an object, in parts, so that a Scene and a part have no more than
 * 512 calls. Two objects of which all parts are alike can't be told from one another.
 */
final class Probe {
    static final int TRAYS_0_1 = 0;
    static final int TRAYS_2_3 = 1;
    static final int SORTS = 2;
    static final int EYES = 3;
    static final int MIDDLES = 4;
    static final int STEPS = 5;
    static final int MONTHS = 6;
    static final int DAYS = 7;
    private static final int FIRST_TOLD = 8;
    static final int PARTS = FIRST_TOLD + 16;
    /** Each part begins with top and bottom. */
    static final int OF_FRACTION = 2;
    private static final int MOST_CALLS = 440;
    private static final long ALL_BITS_UNLIKE = 0x0123456789abcdefL;

    private final SpotRows x;
    private final List<Long> answers = new ArrayList<>();

    private Probe(SpotRows x) {
        this.x = x;
    }

    static List<Long> of(SpotRows x, int part) {
        Probe probe = new Probe(x);
        probe.fraction();
        switch (part) {
            case TRAYS_0_1 -> probe.traysFrom(0);
            case TRAYS_2_3 -> probe.traysFrom(2);
            case SORTS -> probe.sorts();
            case EYES -> probe.eyes();
            case MIDDLES -> probe.middles();
            case STEPS -> probe.steps();
            case MONTHS -> probe.months();
            case DAYS -> probe.days();
            default -> probe.tolds((part - FIRST_TOLD) / 2, part % 2);
        }
        if (probe.answers.size() > MOST_CALLS) {
            throw new IllegalStateException("part " + part + " has too many calls");
        }
        return probe.answers;
    }

    /** The part that asks for GROUPS (what 0) or SPOTS (what 1) of an EYE's DAYS. */
    static int told(int eye, int what) {
        return FIRST_TOLD + 2 * eye + what;
    }

    private void add(long answer) {
        answers.add(answer);
    }

    private void add(boolean answer) {
        answers.add(answer ? 1L : 0L);
    }

    private void fraction() {
        add(x.top());
        add(x.bottom());
    }

    private void traysFrom(int first) {
        for (int tray = first; tray < first + 2; tray++) {
            for (int place = -1; place <= 60; place++) {
                add(x.read(tray, place));
                add(x.status());
            }
        }
    }

    private void sorts() {
        for (int from = 0; from < 4; from++) {
            for (int to = 0; to < 4; to++) {
                add(x.pour(from, 0, to, 0, 0));
                add(x.status());
            }
        }
        for (int tray = 0; tray < 4; tray++) {
            add(x.write(tray, 0, ALL_BITS_UNLIKE));
            add(x.read(tray, 0));
        }
    }

    private void eyes() {
        for (int a = 0; a < 8; a++) {
            add(x.days(a));
            add(x.weight(a));
            for (int k = 0; k < 4; k++) {
                add(x.chain(a, k));
            }
            for (int b = 0; b < 8; b++) {
                add(x.both(a, b));
                add(x.factor(a, b));
                add(x.blind(a, b));
            }
        }
        add(x.eye());
        add(x.status());
    }

    private void middles() {
        for (int a = 0; a < 8; a++) {
            for (int b = 0; b < 8; b++) {
                add(x.middle(a, b));
                fraction();
            }
            add(x.active(a, 0, 239));
            fraction();
        }
    }

    private void steps() {
        for (int a = 0; a < 8; a++) {
            for (int b = 0; b < 8; b++) {
                add(x.step(a, b, 5));
                fraction();
                add(x.step(a, b, 20));
                add(x.top());
            }
        }
    }

    private void months() {
        for (int month = 0; month < 24; month++) {
            add(x.month(month));
            add(x.smooth(month, 7));
            for (int eye = 1; eye < 8; eye++) {
                add(x.change(month, eye));
                add(x.status() == 0);
            }
        }
        for (int k = 0; k < 4; k++) {
            add(x.turn(k, 1, 1, true));
            add(x.turn(k, 3, 2, false));
        }
    }

    private void days() {
        for (int day = 0; day < 240; day++) {
            add(x.day(day));
        }
    }

    private void tolds(int eye, int what) {
        for (int day = 0; day < 240; day++) {
            add(x.told(eye, day, what));
        }
    }
}
