/**
 * Every other refusal than that of a number out of bounds (BoundsTest): its STATUS, and that
 * nothing else changes. Where the document names an edge, the near side is met.
 */
public final class RefusalsTest {
    private static final int[] FAR = {-1, Integer.MIN_VALUE, Integer.MAX_VALUE};
    private static final Due due = new Due();
    private static final Refusals calls = new Refusals(due);

    public static void main(String[] args) {
        missingTrays();
        placesThatATrayHasNot();
        placesOfAnEmptyTray();
        tooFewToPour();
        tooFewToBook();
        wrongNumbersOfABook();
        oneEyeTooMany();
        unsaidAlready();
        nothingIsTold();
        nothingToCallActive();
        noFactor();
        noMiddle();
        noStep();
        noBlind();
        lostEyes();
        beyondTheChain();
        noLoop();
        noValueOfADay();
        noValueOfAMonth();
        noSmooth();
        noTurn();
        noChange();
        unlikeSorts();
        due.end("RefusalsTest");
    }

    private static void missingTrays() {
        due.says("2 the TRAY is MISSING.");
        for (int tray = 0; tray < 4; tray++) {
            int t = tray;
            calls.no(Scene.NEW, 2, "write(" + t + ", 0, 1)", x -> x.write(t, 0, 1));
            calls.none(Scene.NEW, 2, "read(" + t + ", 0)", x -> x.read(t, 0));
            calls.no(Scene.NEW, 2, "pour(" + t + ", 0, " + t + ", 0, 0)", x -> x.pour(t, 0, t, 0, 0));
        }
        calls.no(Scene.FULL, 2, "write(2, 0, 1)", x -> x.write(2, 0, 1));
        calls.none(Scene.FULL, 2, "read(2, 0)", x -> x.read(2, 0));
        calls.no(Scene.FULL, 2, "pour(2, 0, 0, 0, 0)", x -> x.pour(2, 0, 0, 0, 0));
        calls.no(Scene.FULL, 2, "pour(0, 0, 2, 0, 0)", x -> x.pour(0, 0, 2, 0, 0));
        calls.no(Scene.FULL, 2, "book(0, 0, 2, 1)", x -> x.book(0, 0, 2, 1));
        calls.no(Scene.FULL, 2, "book(0, 180, 2, 60)", x -> x.book(0, 180, 2, 60));
    }

    private static void placesThatATrayHasNot() {
        due.says("3 a place that the TRAY has not");
        for (int place : new int[] {-1, 60, 61, 239, 240, Integer.MIN_VALUE, Integer.MAX_VALUE}) {
            calls.no(Scene.FULL, 3, "write(0, " + place + ", 1)", x -> x.write(0, place, 1));
            calls.no(Scene.FULL, 3, "write(3, " + place + ", 1)", x -> x.write(3, place, 1));
            calls.none(Scene.FULL, 3, "read(0, " + place + ")", x -> x.read(0, place));
            calls.none(Scene.FULL, 3, "read(3, " + place + ")", x -> x.read(3, place));
        }
        calls.no(Scene.FULL, 3, "write(1, 4, 1)", x -> x.write(1, 4, 1));
        calls.none(Scene.FULL, 3, "read(1, 4)", x -> x.read(1, 4));
        SpotRows x = Scene.FULL.make();
        due.met(x, "write(0, 0, 1)", x.write(0, 0, 1));
        due.met(x, "write(0, 59, 1)", x.write(0, 59, 1));
        due.met(x, "write(1, 3, 1)", x.write(1, 3, 1));
        due.met(x, "read(0, 0)", x.read(0, 0), 1);
        due.met(x, "read(0, 59)", x.read(0, 59), 1);
        due.met(x, "read(1, 3)", x.read(1, 3), 1);
    }

    private static void placesOfAnEmptyTray() {
        due.says("rows of 0 to 60 numbers");
        calls.no(Scene.SMALL, 3, "write(1, 0, 0)", x -> x.write(1, 0, 0));
        calls.none(Scene.SMALL, 3, "read(1, 0)", x -> x.read(1, 0));
        calls.no(Scene.SMALL, 3, "pour(1, 0, 1, 0, 1)", x -> x.pour(1, 0, 1, 0, 1));
        calls.no(Scene.SMALL, 3, "pour(1, 1, 1, 0, 0)", x -> x.pour(1, 1, 1, 0, 0));
        calls.no(Scene.SMALL, 3, "book(0, 0, 1, 1)", x -> x.book(0, 0, 1, 1));
        SpotRows x = Scene.SMALL.make();
        due.met(x, "pour(1, 0, 1, 0, 0)", x.pour(1, 0, 1, 0, 0));
    }

    private static void tooFewToPour() {
        due.says("or too few numbers");
        int[][] wrong = {{0, 0, 3, 0, 61}, {0, 1, 3, 0, 60}, {0, 0, 3, 1, 60}, {0, 59, 3, 0, 2},
            {0, 0, 3, 59, 2}, {0, 60, 3, 0, 1}, {0, 0, 3, 60, 1}, {3, 60, 3, 0, 1}, {3, 0, 3, 60, 1},
            {0, 61, 3, 0, 0}, {0, 0, 3, 61, 0}, {1, 1, 1, 0, 4}, {1, 0, 1, 1, 4}, {1, 4, 1, 0, 1},
            {0, Integer.MAX_VALUE, 3, 0, 1}, {0, 0, 3, Integer.MAX_VALUE, 1},
            {0, 0, 3, 0, Integer.MAX_VALUE}, {0, 1, 3, 1, Integer.MAX_VALUE},
            {0, Integer.MAX_VALUE, 3, Integer.MAX_VALUE, Integer.MAX_VALUE}};
        for (int[] p : wrong) {
            String text = "pour(" + p[0] + ", " + p[1] + ", " + p[2] + ", " + p[3] + ", " + p[4] + ")";
            calls.no(Scene.FULL, 3, text, x -> x.pour(p[0], p[1], p[2], p[3], p[4]));
        }
        int[][] right = {{0, 0, 3, 0, 60}, {0, 1, 3, 0, 59}, {0, 0, 3, 1, 59}, {0, 59, 3, 59, 1},
            {0, 60, 3, 60, 0}, {1, 1, 1, 0, 3}, {1, 0, 1, 1, 3}, {1, 4, 1, 4, 0}};
        for (int[] p : right) {
            String text = "pour(" + p[0] + ", " + p[1] + ", " + p[2] + ", " + p[3] + ", " + p[4] + ")";
            SpotRows x = Scene.FULL.make();
            due.met(x, text, x.pour(p[0], p[1], p[2], p[3], p[4]));
        }
    }

    private static void tooFewToBook() {
        due.says("or too few numbers");
        calls.no(Scene.SMALL, 3, "book(1, 20, 2, 4)", x -> x.book(1, 20, 2, 4));
        calls.no(Scene.SMALL, 3, "book(1, 20, 2, 60)", x -> x.book(1, 20, 2, 60));
        calls.no(Scene.SMALL, 3, "book(1, 20, 0, 13)", x -> x.book(1, 20, 0, 13));
        SpotRows x = Scene.SMALL.make();
        due.met(x, "book(1, 20, 2, 3)", x.book(1, 20, 2, 3));
        due.met(x, "book(1, 20, 0, 12)", x.book(1, 20, 0, 12));
    }

    private static void wrongNumbersOfABook() {
        due.says("1: the numbers");
        calls.no(Scene.FULL, 1, "book(0, 0, 1, 3)", x -> x.book(0, 0, 1, 3));
        calls.no(Scene.FULL, 1, "book(0, 0, 1, 4)", x -> x.book(0, 0, 1, 4));
        calls.no(Scene.FULL, 1, "book(3, 236, 1, 4)", x -> x.book(3, 236, 1, 4));
        SpotRows x = Scene.FULL.make();
        due.met(x, "book(0, 0, 1, 2)", x.book(0, 0, 1, 2));
        due.met(x, "told(0, 0, 2)", x.told(0, 0, 2), 11);
        due.lacks(x, "told(0, 1, 2)", x.told(0, 1, 2), 5);
    }

    private static void oneEyeTooMany() {
        due.says("4 one too many.");
        calls.none(Scene.FULL, 4, "a ninth eye", SpotRows::eye);
        SpotRows x = Due.withEyes(7);
        due.met(x, "an eighth eye", x.eye(), 7);
        due.lacks(x, "a ninth eye", x.eye(), 4);
        due.lacks(x, "a tenth eye", x.eye(), 4);
    }

    private static void unsaidAlready() {
        due.says("It TELLS nothing of a DAY (1; 5: it does so already).");
        calls.no(Scene.FULL, 5, "unsay(0, 2)", x -> x.unsay(0, 2));
        calls.no(Scene.FULL, 5, "unsay(3, 0)", x -> x.unsay(3, 0));
        calls.no(Scene.FULL, 5, "unsay(3, 239)", x -> x.unsay(3, 239));
        SpotRows x = Scene.FULL.make();
        due.met(x, "unsay(4, 1), which is nought", x.unsay(4, 1));
        due.lacks(x, "unsay(4, 1) again", x.unsay(4, 1), 5);
    }

    private static void nothingIsTold() {
        due.says("5 nothing is told");
        for (int what = 0; what <= 2; what++) {
            int w = what;
            calls.none(Scene.FULL, 5, "told(0, 2, " + w + ")", x -> x.told(0, 2, w));
            calls.none(Scene.FULL, 5, "told(3, 239, " + w + ")", x -> x.told(3, 239, w));
            SpotRows x = Scene.FULL.make();
            due.met(x, "told(4, 1, " + w + "), which is nought", x.told(4, 1, w), 0);
        }
    }

    private static void nothingToCallActive() {
        due.says("by all of which it TELLS: a FRACTION");
        calls.none(Scene.FULL, 5, "active(0, 2, 99)", x -> x.active(0, 2, 99));
        calls.none(Scene.FULL, 5, "active(0, 101, 237)", x -> x.active(0, 101, 237));
        calls.none(Scene.FULL, 5, "active(3, 0, 239)", x -> x.active(3, 0, 239));
        SpotRows x = Scene.FULL.make();
        due.tells(x, "active(0, 2, 100)", x.active(0, 2, 100), 1, 1);
        due.tells(x, "active(0, 1, 99)", x.active(0, 1, 99), 1, 1);
        due.tells(x, "active(4, 1, 1)", x.active(4, 1, 1), 0, 1);
    }

    private static void noFactor() {
        due.says("FACTOR of a to b (1: like ones, too; 6).");
        calls.none(Scene.FULL, 6, "factor(0, 2) of 1 DAY", x -> x.factor(0, 2));
        calls.none(Scene.FULL, 6, "factor(2, 0) of 1 DAY", x -> x.factor(2, 0));
        calls.none(Scene.FULL, 6, "factor(0, 3) of no DAY", x -> x.factor(0, 3));
        calls.none(Scene.SMALL, 6, "factor(0, 2) of 9 DAYS", x -> x.factor(0, 2));
        SpotRows x = Scene.FULL.make();
        due.met(x, "factor(0, 1) of 2 DAYS", x.factor(0, 1), (23 + 180) * 1000 / (5 + 400));
        SpotRows y = Scene.SMALL.make();
        y.factor(0, 1);
        due.is("status after factor(0, 1) of 10 DAYS", y.status(), 0);
    }

    private static void noMiddle() {
        due.says("6: there is no such DAY");
        calls.none(Scene.FULL, 6, "middle(0, 3) of no DAY", x -> x.middle(0, 3));
        calls.none(Scene.FULL, 6, "middle(3, 0) of no DAY", x -> x.middle(3, 0));
        SpotRows x = Scene.FULL.make();
        due.tells(x, "middle(2, 0) of 1 DAY", x.middle(2, 0), 5, 11);
        x.tell(2, 0, 0, 0);
        due.lacks(x, "middle(2, 0) of a DAY with nought", x.middle(2, 0), 6);
        due.is("top as it was", x.top(), 5);
        due.is("bottom as it was", x.bottom(), 11);
    }

    private static void noStep() {
        due.says("that of the greatest number not above it among these; none if there is none");
        calls.none(Scene.FULL, 6, "step(0, 3, 20) of no DAY", x -> x.step(0, 3, 20));
        calls.none(Scene.FULL, 6, "step(1, 0, 1) below the least", x -> x.step(1, 0, 1));
        calls.none(Scene.FULL, 6, "step(1, 0, 0) below the least", x -> x.step(1, 0, 0));
        SpotRows x = Scene.FULL.make();
        due.tells(x, "step(1, 0, 2) of the least", x.step(1, 0, 2), 0, 1);
        due.tells(x, "step(1, 0, 8) below the next", x.step(1, 0, 8), 0, 1);
        due.tells(x, "step(1, 0, 9) of the next", x.step(1, 0, 9), 20, 1);
    }

    private static void noBlind() {
        due.says("6: BOTH are none");
        calls.none(Scene.FULL, 6, "blind(0, 3)", x -> x.blind(0, 3));
        calls.none(Scene.FULL, 6, "blind(3, 0)", x -> x.blind(3, 0));
        calls.none(Scene.FULL, 6, "blind(6, 7)", x -> x.blind(6, 7));
        SpotRows x = Scene.FULL.make();
        due.met(x, "blind(0, 2) of 1 DAY", x.blind(0, 2), 1);
        due.met(x, "blind(2, 0) of 1 DAY", x.blind(2, 0), 0);
    }

    private static void lostEyes() {
        due.says("An EYE without a CHAIN is LOST.");
        calls.none(Scene.FULL, 6, "weight(2), with too few DAYS", x -> x.weight(2));
        calls.none(Scene.FULL, 6, "weight(3), without DAYS", x -> x.weight(3));
        calls.none(Scene.SMALL, 6, "weight(2), with 9 DAYS", x -> x.weight(2));
        SpotRows x = Scene.FULL.make();
        due.met(x, "weight(0)", x.weight(0), 1000);
        due.met(x, "weight(1)", x.weight(1), (5 + 400) * 1000 / (23 + 180));
        x.tell(2, 239, 20, 200);
        due.met(x, "weight(2) by one DAY more", x.weight(2), (5 + 400) * 1000 / (11 + 400));
    }

    private static void beyondTheChain() {
        due.says("6: LOST, or k is beyond it, or below 0");
        calls.none(Scene.FULL, 6, "chain(2, 0), LOST", x -> x.chain(2, 0));
        calls.none(Scene.FULL, 6, "chain(3, 0), LOST", x -> x.chain(3, 0));
        calls.none(Scene.FULL, 6, "chain(0, 1)", x -> x.chain(0, 1));
        calls.none(Scene.FULL, 6, "chain(1, 2)", x -> x.chain(1, 2));
        calls.none(Scene.FULL, 6, "chain(6, 3)", x -> x.chain(6, 3));
        for (int k : FAR) {
            calls.none(Scene.FULL, 6, "chain(0, " + k + ")", x -> x.chain(0, k));
            calls.none(Scene.FULL, 6, "chain(2, " + k + ")", x -> x.chain(2, k));
            calls.none(Scene.FULL, 6, "chain(6, " + k + ")", x -> x.chain(6, k));
        }
        SpotRows x = Scene.FULL.make();
        due.met(x, "chain(0, 0)", x.chain(0, 0), 0);
        due.met(x, "chain(1, 1)", x.chain(1, 1), 0);
        due.met(x, "chain(6, 0)", x.chain(6, 0), 6);
        due.met(x, "chain(6, 1)", x.chain(6, 1), 5);
        due.met(x, "chain(6, 2)", x.chain(6, 2), 0);
    }

    private static void noLoop() {
        due.says("6: a FACTOR lacks");
        calls.none(Scene.FULL, 6, "loop(2, 0, 1)", x -> x.loop(2, 0, 1));
        calls.none(Scene.FULL, 6, "loop(0, 1, 2)", x -> x.loop(0, 1, 2));
        calls.none(Scene.FULL, 6, "loop(1, 2, 0)", x -> x.loop(1, 2, 0));
        calls.none(Scene.FULL, 6, "loop(6, 5, 0)", x -> x.loop(6, 5, 0));
        calls.none(Scene.FULL, 6, "loop(0, 6, 5)", x -> x.loop(0, 6, 5));
        calls.none(Scene.FULL, 6, "loop(5, 0, 6)", x -> x.loop(5, 0, 6));
        SpotRows x = Scene.FULL.make();
        long ways = (long) x.factor(0, 1) * x.factor(1, 7) * x.factor(7, 0);
        due.met(x, "loop(0, 1, 7)", x.loop(0, 1, 7), ways / 1000000);
    }

    private static void noValueOfADay() {
        due.says("none without any");
        calls.none(Scene.NEW, 5, "day(0)", x -> x.day(0));
        calls.none(Scene.NEW, 5, "day(239)", x -> x.day(239));
        calls.none(Scene.FULL, 5, "day(2), of which none TELLS", x -> x.day(2));
        SpotRows x = Scene.FULL.make();
        due.met(x, "day(1), of which 0 TELLS", x.day(1), (29000 + 0) / 2);
        x.tell(2, 2, 1, 1);
        x.tell(3, 3, 1, 1);
        due.lacks(x, "day(2), of which a LOST one TELLS", x.day(2), 5);
        due.lacks(x, "day(3), of which a LOST one TELLS", x.day(3), 5);
        x.tell(4, 3, 0, 0);
        due.met(x, "day(3), of which 4 TELLS nought", x.day(3), 0);
    }

    private static void noValueOfAMonth() {
        due.says("none if fewer than so many DAYS have one");
        calls.none(Scene.NEW, 5, "month(0)", x -> x.month(0));
        calls.none(Scene.FULL, 5, "month(10), of 1 DAY", x -> x.month(10));
        calls.none(Scene.FULL, 5, "month(20), of none", x -> x.month(20));
        calls.none(Scene.SMALL, 5, "month(2), of 2 DAYS", x -> x.month(2));
        SpotRows x = Scene.FULL.make();
        x.tell(0, 109, 1, 1);
        due.met(x, "month(10), of 2 DAYS", x.month(10), 11000);
        SpotRows y = Scene.SMALL.make();
        due.met(y, "month(1), of 3 DAYS", y.month(1), (12000 + 0 + 70000) / 3);
    }

    private static void noSmooth() {
        due.says("none if it has none itself");
        for (int w = 1; w <= 7; w += 2) {
            int one = w;
            calls.none(Scene.NEW, 5, "smooth(0, " + w + ")", x -> x.smooth(0, one));
            calls.none(Scene.FULL, 5, "smooth(1, " + w + ")", x -> x.smooth(1, one));
            calls.none(Scene.FULL, 5, "smooth(22, " + w + ")", x -> x.smooth(22, one));
            SpotRows x = Scene.FULL.make();
            due.met(x, "smooth(0, " + w + ")", x.smooth(0, w), x.month(0));
        }
    }

    private static void noTurn() {
        due.says("6: there is none such, k below 0, too");
        for (int k : FAR) {
            calls.none(Scene.FULL, 6, "turn(" + k + ", 1, 1, true)", x -> x.turn(k, 1, 1, true));
            calls.none(Scene.FULL, 6, "turn(" + k + ", 7, 8, false)", x -> x.turn(k, 7, 8, false));
        }
        calls.none(Scene.NEW, 6, "turn(0, 1, 1, true)", x -> x.turn(0, 1, 1, true));
        calls.none(Scene.NEW, 6, "turn(0, 1, 1, false)", x -> x.turn(0, 1, 1, false));
        calls.none(Scene.FULL, 6, "turn(3, 1, 1, true)", x -> x.turn(3, 1, 1, true));
        calls.none(Scene.FULL, 6, "turn(3, 1, 1, false)", x -> x.turn(3, 1, 1, false));
        SpotRows x = Scene.FULL.make();
        for (boolean high : new boolean[] {true, false}) {
            due.met(x, "the first turn", x.turn(0, 1, 1, high), 0);
            due.met(x, "the second turn", x.turn(1, 1, 1, high), 5);
            due.met(x, "the last turn", x.turn(2, 1, 1, high), 23);
        }
    }

    private static void noChange() {
        due.says("5: either VALUE");
        calls.none(Scene.FULL, 5, "change(10, 1), no VALUE", x -> x.change(10, 1));
        calls.none(Scene.FULL, 5, "change(5, 5), no VALUE without it", x -> x.change(5, 5));
        calls.none(Scene.SMALL, 5, "change(2, 1), no VALUE", x -> x.change(2, 1));
        SpotRows x = Scene.FULL.make();
        due.met(x, "change(5, 1), both VALUES", x.change(5, 1), 0);
        due.met(x, "change(5, 7), both VALUES", x.change(5, 7), 0);
        x.change(5, 6);
        due.is("status after change(5, 6), both VALUES", x.status(), 0);
    }

    private static void unlikeSorts() {
        due.says("7 TRAYS are of unlike sorts.");
        calls.no(Scene.FULL, 7, "pour(0, 0, 1, 0, 1)", x -> x.pour(0, 0, 1, 0, 1));
        calls.no(Scene.FULL, 7, "pour(1, 0, 0, 0, 1)", x -> x.pour(1, 0, 0, 0, 1));
        calls.no(Scene.FULL, 7, "pour(0, 0, 1, 0, 4)", x -> x.pour(0, 0, 1, 0, 4));
        calls.no(Scene.FULL, 7, "pour(1, 0, 3, 0, 4)", x -> x.pour(1, 0, 3, 0, 4));
        calls.no(Scene.FULL, 7, "pour(1, 0, 3, 0, 0)", x -> x.pour(1, 0, 3, 0, 0));
        calls.no(Scene.SMALL, 7, "pour(1, 0, 0, 0, 0)", x -> x.pour(1, 0, 0, 0, 0));
        for (int a = 0; a < 4; a++) {
            for (int b = 0; b < 4; b++) {
                SpotRows x = new SpotRows();
                x.tray(0, a, 2);
                x.tray(3, b, 2);
                x.write(0, 1, 8);
                String text = "pour of sort " + a + " to sort " + b;
                if (a == b) {
                    due.met(x, text, x.pour(0, 0, 3, 0, 2));
                } else {
                    due.lacks(x, text, x.pour(0, 0, 3, 0, 2), 7);
                }
                due.met(x, "read behind a " + text, x.read(3, 1), a == b ? 8 : 0);
            }
        }
    }
}
