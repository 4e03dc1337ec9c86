import java.util.List;

/** What a call that is met changes, and that it changes nothing beside that. */
public final class EffectsTest {
    private static final Due due = new Due();
    private static final Usual usual = new Usual();

    private interface Call {
        void on(SpotRows x);
    }

    public static void main(String[] args) {
        callsThatOnlyAnswer();
        callsThatTellAFraction();
        callsWithoutStatus();
        metCallsHaveStatus0();
        trays();
        writes();
        pours();
        eyes();
        tells();
        unsays();
        books();
        rules();
        due.end("EffectsTest");
    }

    /** The places of a part's answers that are others after a call that is met. */
    private static List<Integer> unlike(Scene scene, int part, Call call) {
        SpotRows x = scene.make();
        call.on(x);
        due.is("status of a met call", x.status(), 0);
        return usual.unlike(scene, x, part);
    }

    private static void keeps(Scene scene, String text, Call call, int... parts) {
        for (int part : parts) {
            due.is(text + " changes of part " + part, unlike(scene, part, call).size(), 0);
        }
    }

    private static void keepsAll(Scene scene, String text, Call call) {
        for (int part = 0; part < Probe.PARTS; part++) {
            keeps(scene, text, call, part);
        }
    }

    private static void keepsTolds(Scene scene, String text, Call call, int but) {
        for (int eye = 0; eye < 8; eye++) {
            if (eye != but) {
                keeps(scene, text, call, Probe.told(eye, 0), Probe.told(eye, 1));
            }
        }
    }

    private static void callsThatOnlyAnswer() {
        due.says("Nothing is promised beyond the answers and state changes described above");
        keepsAll(Scene.FULL, "read", x -> x.read(0, 0));
        keepsAll(Scene.FULL, "told", x -> x.told(0, 239, 2));
        keepsAll(Scene.FULL, "days", x -> x.days(0));
        keepsAll(Scene.FULL, "both", x -> x.both(0, 3));
        keepsAll(Scene.FULL, "factor", x -> x.factor(0, 7));
        keepsAll(Scene.FULL, "blind", x -> x.blind(0, 7));
        keepsAll(Scene.FULL, "chain", x -> x.chain(6, 2));
        keepsAll(Scene.FULL, "weight", x -> x.weight(6));
        keepsAll(Scene.FULL, "loop", x -> x.loop(0, 1, 7));
        keepsAll(Scene.FULL, "day", x -> x.day(239));
        keepsAll(Scene.FULL, "month", x -> x.month(23));
        keepsAll(Scene.FULL, "smooth", x -> x.smooth(23, 7));
        keepsAll(Scene.FULL, "turn", x -> x.turn(1, 5, 8, false));
        for (int eye = 1; eye < 8; eye++) {
            int one = eye;
            keepsAll(Scene.FULL, "change", x -> x.change(23, one));
        }
    }

    private static void callsThatTellAFraction() {
        due.says("The top of the FRACTION told latest.");
        Call[] tellers = {x -> x.middle(1, 0), x -> x.step(4, 0, 7), x -> x.active(4, 0, 239)};
        for (Call teller : tellers) {
            keepsAll(Scene.FULL, "a teller, and the FRACTION of the Scene again", x -> {
                teller.on(x);
                x.active(0, 0, 239);
            });
        }
        SpotRows x = Scene.FULL.make();
        due.is("top of the Scene", x.top(), 4);
        due.is("bottom of the Scene", x.bottom(), 5);
        due.tells(x, "middle(1, 0)", x.middle(1, 0), 5, 23);
        due.tells(x, "step(4, 0, 7)", x.step(4, 0, 7), 1, 1);
        due.tells(x, "active(4, 0, 239)", x.active(4, 0, 239), 2, 3);
        due.lacks(x, "active(3, 0, 239)", x.active(3, 0, 239), 5);
        due.is("top of the latest told", x.top(), 2);
        due.is("bottom of the latest told", x.bottom(), 3);
    }

    private static void callsWithoutStatus() {
        due.says("status(), top(), bottom() have none.");
        Call[] refused = {x -> x.days(8), x -> x.read(2, 0), x -> x.read(0, 60), SpotRows::eye,
            x -> x.told(3, 0, 0), x -> x.weight(3), x -> x.pour(0, 0, 1, 0, 0)};
        int[] statuses = {1, 2, 3, 4, 5, 6, 7};
        for (int k = 0; k < refused.length; k++) {
            SpotRows x = Scene.FULL.make();
            refused[k].on(x);
            due.is("status", x.status(), statuses[k]);
            x.top();
            due.is("status behind top", x.status(), statuses[k]);
            x.bottom();
            due.is("status behind bottom", x.status(), statuses[k]);
        }
    }

    private static void metCallsHaveStatus0() {
        due.says("STATUS of the latest call that has one.");
        Call[] met = {x -> x.tray(2, 0, 1), x -> x.write(0, 0, 1), x -> x.read(0, 0),
            x -> x.pour(0, 0, 3, 0, 1), x -> x.tell(0, 0, 1, 1), x -> x.unsay(0, 0),
            x -> x.book(0, 0, 0, 1), x -> x.told(0, 0, 0), x -> x.days(0), x -> x.rules(1, 1),
            x -> x.both(0, 3), x -> x.factor(0, 1), x -> x.middle(0, 1), x -> x.step(0, 1, 20),
            x -> x.blind(0, 1), x -> x.active(0, 0, 0), x -> x.chain(0, 0), x -> x.weight(0),
            x -> x.loop(0, 1, 7), x -> x.day(0), x -> x.month(0), x -> x.smooth(0, 1),
            x -> x.turn(0, 1, 1, true), x -> x.change(0, 1)};
        for (int k = 0; k < met.length; k++) {
            SpotRows x = Scene.FULL.make();
            x.read(2, 0);
            due.is("status ahead of met call " + k, x.status(), 2);
            met[k].on(x);
            due.is("status behind met call " + k, x.status(), 0);
        }
        SpotRows x = new SpotRows();
        x.read(2, 0);
        x.eye();
        due.is("status behind eye", x.status(), 0);
    }

    private static void trays() {
        due.says("A TRAY is a row of so many 0s (1).");
        Call call = x -> x.tray(2, 0, 60);
        keeps(Scene.FULL, "tray", call, Probe.TRAYS_0_1, Probe.EYES, Probe.MIDDLES, Probe.STEPS,
            Probe.MONTHS, Probe.DAYS);
        keepsTolds(Scene.FULL, "tray", call, -1);
        // 60 numbers, and STATUS of these and of the places -1 and 60.
        due.is("tray changes places", unlike(Scene.FULL, Probe.TRAYS_2_3, call).size(), 122);
        for (int sort = 0; sort < 4; sort++) {
            for (int many : new int[] {0, 1, 59, 60}) {
                SpotRows x = Scene.FULL.make();
                due.met(x, "tray", x.tray(0, sort, many));
                for (int place = 0; place < many; place++) {
                    due.met(x, "a 0", x.read(0, place), 0);
                }
                due.lacks(x, "behind the last one", x.read(0, many), 3);
            }
        }
    }

    private static void writes() {
        due.says("A number comes to a place of a TRAY, cut to its sort (1, 2, 3).");
        Call call = x -> x.write(3, 0, 5);
        keeps(Scene.FULL, "write", call, Probe.TRAYS_0_1, Probe.SORTS, Probe.EYES, Probe.MIDDLES,
            Probe.STEPS, Probe.MONTHS, Probe.DAYS);
        keepsTolds(Scene.FULL, "write", call, -1);
        due.is("write changes places", unlike(Scene.FULL, Probe.TRAYS_2_3, call).size(), 1);
        Call last = x -> x.write(0, 59, 5);
        keeps(Scene.FULL, "write", last, Probe.TRAYS_2_3);
        due.is("write changes places", unlike(Scene.FULL, Probe.TRAYS_0_1, last).size(), 1);
    }

    private static void pours() {
        due.says("come to another one's (or its own) place on, as they were");
        Call call = x -> x.pour(3, 0, 0, 0, 2);
        keeps(Scene.FULL, "pour", call, Probe.TRAYS_2_3, Probe.SORTS, Probe.EYES, Probe.MIDDLES,
            Probe.STEPS, Probe.MONTHS, Probe.DAYS);
        keepsTolds(Scene.FULL, "pour", call, -1);
        due.is("pour changes places", unlike(Scene.FULL, Probe.TRAYS_0_1, call).size(), 2);
        keepsAll(Scene.FULL, "pour of none", x -> x.pour(0, 60, 3, 60, 0));
        keepsAll(Scene.FULL, "pour on itself", x -> x.pour(0, 0, 0, 0, 60));
    }

    private static void eyes() {
        due.says("An EYE more: its number (4).");
        keeps(Scene.SMALL, "eye", SpotRows::eye, Probe.TRAYS_0_1, Probe.TRAYS_2_3, Probe.SORTS,
            Probe.MIDDLES, Probe.STEPS, Probe.DAYS);
        keepsTolds(Scene.SMALL, "eye", SpotRows::eye, -1);
    }

    private static void tells() {
        due.says("What an EYE TELLS of a DAY (1: also fewer SPOTS than GROUPS).");
        for (int day : new int[] {0, 120, 239}) {
            Call call = x -> x.tell(4, day, 11, 111);
            keeps(Scene.FULL, "tell", call, Probe.TRAYS_0_1, Probe.TRAYS_2_3, Probe.SORTS);
            keepsTolds(Scene.FULL, "tell", call, 4);
            for (int what = 0; what < 2; what++) {
                List<Integer> days = unlike(Scene.FULL, Probe.told(4, what), call);
                due.yes("one DAY", days.equals(List.of(Probe.OF_FRACTION + day)));
            }
        }
        keepsAll(Scene.FULL, "told already", x -> x.tell(4, 0, 3, 3));
    }

    private static void unsays() {
        due.says("It TELLS nothing of a DAY (1; 5: it does so already).");
        for (int day : new int[] {0, 239}) {
            Call call = x -> x.unsay(4, day);
            keeps(Scene.FULL, "unsay", call, Probe.TRAYS_0_1, Probe.TRAYS_2_3, Probe.SORTS);
            keepsTolds(Scene.FULL, "unsay", call, 4);
            for (int what = 0; what < 2; what++) {
                List<Integer> days = unlike(Scene.FULL, Probe.told(4, what), call);
                due.yes("one DAY", days.equals(List.of(Probe.OF_FRACTION + day)));
            }
        }
        keepsAll(Scene.FULL, "unsaid and told again", x -> {
            x.unsay(4, 239);
            x.tell(4, 239, 8, 8);
        });
    }

    /** TRAY 0 begins with 1001, 200, -1: the third DAY stays as it is, without a telling. */
    private static void books() {
        due.says("From a DAY on it TELLS by the first numbers of a TRAY, so many (1 to 60), one for each DAY");
        for (int day : new int[] {2, 180, 236}) {
            Call call = x -> x.book(4, day, 0, 3);
            keeps(Scene.FULL, "book", call, Probe.TRAYS_0_1, Probe.TRAYS_2_3, Probe.SORTS);
            keepsTolds(Scene.FULL, "book", call, 4);
            for (int what = 0; what < 2; what++) {
                List<Integer> days = unlike(Scene.FULL, Probe.told(4, what), call);
                int first = Probe.OF_FRACTION + day;
                due.yes("two DAYS", days.equals(List.of(first, first + 1)));
            }
        }
        SpotRows x = Scene.FULL.make();
        due.met(x, "book over what was told", x.book(4, 237, 0, 3));
        due.lacks(x, "-1 is nothing", x.told(4, 239, 0), 5);
        due.met(x, "DAYS", x.days(4), 4);
    }

    private static void rules() {
        due.says("LEAST (1 to 100) and ENOUGH (1).");
        keepsAll(Scene.FULL, "the same rules", x -> x.rules(2, 2));
        keepsAll(Scene.SMALL, "the rules as at first", x -> x.rules(10, 3));
        Call call = x -> x.rules(3, 1);
        keeps(Scene.FULL, "rules", call, Probe.TRAYS_0_1, Probe.TRAYS_2_3, Probe.SORTS, Probe.MIDDLES,
            Probe.STEPS);
        keepsTolds(Scene.FULL, "rules", call, -1);
        due.yes("LEAST changes CHAINS", unlike(Scene.FULL, Probe.EYES, call).size() > 0);
        due.yes("ENOUGH changes MONTHS", unlike(Scene.FULL, Probe.MONTHS, call).size() > 0);
    }
}
