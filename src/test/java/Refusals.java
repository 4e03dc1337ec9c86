/** Asks calls that are due to be refused, and looks whether anything but STATUS is another then. */
final class Refusals {
    interface Call {
        long on(SpotRows x);
    }

    interface YesCall {
        boolean on(SpotRows x);
    }

    interface NumberCall {
        long on(SpotRows x, int number);
    }

    interface NumberYesCall {
        boolean on(SpotRows x, int number);
    }

    private static final int FALSE = 0;

    private final Due due;
    private final Usual usual = new Usual();

    Refusals(Due due) {
        this.due = due;
    }

    /** A call that gives a number: NONE is due. */
    void none(Scene scene, int status, String text, Call call) {
        refused(scene, status, text, SpotRows.NONE, call);
    }

    /** A call that gives a boolean: false is due. */
    void no(Scene scene, int status, String text, YesCall call) {
        refused(scene, status, text, FALSE, x -> call.on(x) ? 1 : FALSE);
    }

    private void refused(Scene scene, int status, String text, int answer, Call call) {
        String where = text + " in " + scene;
        for (int part = 0; part < Probe.PARTS; part++) {
            SpotRows x = scene.make();
            due.is(where, call.on(x), answer);
            due.is("status after " + where, x.status(), status);
            int others = usual.unlike(scene, x, part).size();
            due.is("answers of part " + part + " that changed by " + where, others, 0);
        }
    }

    private void met(Scene scene, String text, Call call) {
        SpotRows x = scene.make();
        call.on(x);
        due.is("status after " + text + " in " + scene, x.status(), 0);
    }

    /** A number from least to most is met, one beyond has STATUS 1. */
    void bounds(Scene scene, int least, int most, String text, NumberCall call) {
        for (int number : new int[] {least, most}) {
            met(scene, text + ", n = " + number, x -> call.on(x, number));
        }
        for (int number : beyond(least, most)) {
            none(scene, 1, text + ", n = " + number, x -> call.on(x, number));
        }
    }

    void yesBounds(Scene scene, int least, int most, String text, NumberYesCall call) {
        for (int number : new int[] {least, most}) {
            met(scene, text + ", n = " + number, x -> call.on(x, number) ? 1 : FALSE);
        }
        for (int number : beyond(least, most)) {
            no(scene, 1, text + ", n = " + number, x -> call.on(x, number));
        }
    }

    private static int[] beyond(int least, int most) {
        return new int[] {least - 1, most + 1, Integer.MIN_VALUE, Integer.MAX_VALUE};
    }
}
