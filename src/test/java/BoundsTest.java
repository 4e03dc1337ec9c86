/**
 * The bounds of each argument: the last number on the near side is met, the first one on the far
 * side, and the farthest ones, have STATUS 1 and change nothing.
 */
public final class BoundsTest {
    private static final Due due = new Due();
    private static final Refusals calls = new Refusals(due);

    public static void main(String[] args) {
        trays();
        sorts();
        sizes();
        placesOfPour();
        eyesOfTheirCalls();
        eyesOfPairs();
        eyesOfLoops();
        days();
        daysOfActive();
        groups();
        spots();
        spotsByGroups();
        booksOfSoMany();
        booksUpToTheLastDay();
        whats();
        leasts();
        enoughs();
        groupsOfSteps();
        months();
        widths();
        reaches();
        eyesOfChange();
        due.end("BoundsTest");
    }

    private static void trays() {
        due.says("TRAYS 0 to 3 are MISSING at first");
        calls.yesBounds(Scene.FULL, 0, 3, "tray(n, 3, 5)", (x, n) -> x.tray(n, 3, 5));
        calls.yesBounds(Scene.FULL, 0, 3, "write(n, 59, 7)", (x, n) -> x.write(n, 59, 7));
        calls.bounds(Scene.FULL, 0, 3, "read(n, 59)", (x, n) -> x.read(n, 59));
        calls.yesBounds(Scene.FULL, 0, 3, "pour(n, 0, 0, 1, 9)", (x, n) -> x.pour(n, 0, 0, 1, 9));
        calls.yesBounds(Scene.FULL, 0, 3, "pour(0, 0, n, 1, 9)", (x, n) -> x.pour(0, 0, n, 1, 9));
        calls.yesBounds(Scene.FULL, 0, 3, "book(1, 0, n, 9)", (x, n) -> x.book(1, 0, n, 9));
    }

    private static void sorts() {
        due.says("of 8 bits (sort 0), 16 (1), 32 (2) or 64 (3)");
        for (int tray = 0; tray < 4; tray++) {
            int one = tray;
            calls.yesBounds(Scene.FULL, 0, 3, "tray(" + tray + ", n, 5)", (x, n) -> x.tray(one, n, 5));
        }
    }

    private static void sizes() {
        due.says("rows of 0 to 60 numbers");
        for (int tray = 0; tray < 4; tray++) {
            int one = tray;
            calls.yesBounds(Scene.FULL, 0, 60, "tray(" + tray + ", 2, n)", (x, n) -> x.tray(one, 2, n));
        }
    }

    private static void placesOfPour() {
        due.says("1: below 0, too");
        for (int n : new int[] {-1, Integer.MIN_VALUE}) {
            calls.no(Scene.FULL, 1, "pour(0, " + n + ", 3, 0, 1)", x -> x.pour(0, n, 3, 0, 1));
            calls.no(Scene.FULL, 1, "pour(0, 0, 3, " + n + ", 1)", x -> x.pour(0, 0, 3, n, 1));
            calls.no(Scene.FULL, 1, "pour(0, 0, 3, 0, " + n + ")", x -> x.pour(0, 0, 3, 0, n));
            calls.no(Scene.FULL, 1, "pour(0, 5, 0, 3, " + n + ")", x -> x.pour(0, 5, 0, 3, n));
        }
        SpotRows x = Scene.FULL.make();
        due.met(x, "pour(0, 0, 3, 0, 1)", x.pour(0, 0, 3, 0, 1));
        due.met(x, "pour(0, 0, 3, 0, 0)", x.pour(0, 0, 3, 0, 0));
    }

    private static void eyesOfTheirCalls() {
        due.says("no such TRAY, EYE, DAY, MONTH");
        for (Scene scene : Scene.values()) {
            int many = scene == Scene.NEW ? 0 : scene == Scene.SMALL ? 3 : 8;
            for (int n : new int[] {-1, many, 8, Integer.MIN_VALUE, Integer.MAX_VALUE}) {
                calls.no(scene, 1, "tell(" + n + ", 0, 1, 1)", x -> x.tell(n, 0, 1, 1));
                calls.no(scene, 1, "unsay(" + n + ", 0)", x -> x.unsay(n, 0));
                calls.no(scene, 1, "book(" + n + ", 0, 0, 2)", x -> x.book(n, 0, 0, 2));
                calls.none(scene, 1, "told(" + n + ", 0, 2)", x -> x.told(n, 0, 2));
                calls.none(scene, 1, "days(" + n + ")", x -> x.days(n));
                calls.none(scene, 1, "active(" + n + ", 0, 239)", x -> x.active(n, 0, 239));
                calls.none(scene, 1, "chain(" + n + ", 0)", x -> x.chain(n, 0));
                calls.none(scene, 1, "weight(" + n + ")", x -> x.weight(n));
                calls.none(scene, 1, "change(0, " + n + ")", x -> x.change(0, n));
            }
        }
        calls.yesBounds(Scene.FULL, 0, 7, "tell(n, 239, 1, 1)", (x, n) -> x.tell(n, 239, 1, 1));
        calls.yesBounds(Scene.FULL, 0, 7, "unsay(n, 239)", (x, n) -> x.unsay(n, 239));
        calls.yesBounds(Scene.FULL, 0, 7, "book(n, 239, 0, 1)", (x, n) -> x.book(n, 239, 0, 1));
        calls.bounds(Scene.FULL, 0, 7, "told(n, 239, 0)", (x, n) -> x.told(n, 239, 0));
        calls.bounds(Scene.FULL, 0, 7, "days(n)", (x, n) -> x.days(n));
        calls.bounds(Scene.FULL, 0, 7, "active(n, 0, 0)", (x, n) -> x.active(n, 0, 0));
        calls.bounds(Scene.FULL, 0, 7, "chain(n, 0)", (x, n) -> x.chain(n, 0));
        calls.bounds(Scene.FULL, 0, 7, "weight(n)", (x, n) -> x.weight(n));
        calls.bounds(Scene.SMALL, 0, 2, "days(n)", (x, n) -> x.days(n));
        calls.yesBounds(Scene.SMALL, 0, 2, "tell(n, 239, 1, 1)", (x, n) -> x.tell(n, 239, 1, 1));
    }

    private static void eyesOfPairs() {
        due.says("1: like ones, too");
        for (Scene scene : Scene.values()) {
            int many = scene == Scene.NEW ? 0 : scene == Scene.SMALL ? 3 : 8;
            for (int n : new int[] {0, 1, 7, -1, many, Integer.MAX_VALUE}) {
                wrongPair(scene, n, n);
            }
            for (int n : new int[] {-1, many, Integer.MIN_VALUE, Integer.MAX_VALUE}) {
                wrongPair(scene, 0, n);
                wrongPair(scene, n, 0);
            }
        }
        calls.bounds(Scene.FULL, 0, 7, "both(1, n)", (x, n) -> x.both(1, n));
        calls.bounds(Scene.FULL, 0, 7, "both(n, 1)", (x, n) -> x.both(n, 1));
        calls.bounds(Scene.FULL, 0, 7, "factor(1, n)", (x, n) -> x.factor(1, n));
        calls.bounds(Scene.FULL, 0, 7, "factor(n, 1)", (x, n) -> x.factor(n, 1));
        calls.bounds(Scene.FULL, 0, 7, "middle(1, n)", (x, n) -> x.middle(1, n));
        calls.bounds(Scene.FULL, 0, 7, "middle(n, 1)", (x, n) -> x.middle(n, 1));
        calls.bounds(Scene.FULL, 0, 7, "step(1, n, 9)", (x, n) -> x.step(1, n, 9));
        calls.bounds(Scene.FULL, 0, 7, "step(n, 1, 9)", (x, n) -> x.step(n, 1, 9));
        calls.bounds(Scene.FULL, 0, 7, "blind(1, n)", (x, n) -> x.blind(1, n));
        calls.bounds(Scene.FULL, 0, 7, "blind(n, 1)", (x, n) -> x.blind(n, 1));
    }

    private static void wrongPair(Scene scene, int a, int b) {
        String pair = "(" + a + ", " + b + ")";
        calls.none(scene, 1, "both" + pair, x -> x.both(a, b));
        calls.none(scene, 1, "factor" + pair, x -> x.factor(a, b));
        calls.none(scene, 1, "middle" + pair, x -> x.middle(a, b));
        calls.none(scene, 1, "step" + pair, x -> x.step(a, b, 20));
        calls.none(scene, 1, "blind" + pair, x -> x.blind(a, b));
    }

    private static void eyesOfLoops() {
        due.says("LOOP (1: like ones, too; 6: a FACTOR lacks)");
        calls.bounds(Scene.FULL, 0, 7, "loop(n, 1, 4)", (x, n) -> x.loop(n, 1, 4));
        calls.bounds(Scene.FULL, 0, 7, "loop(1, n, 4)", (x, n) -> x.loop(1, n, 4));
        calls.bounds(Scene.FULL, 0, 7, "loop(1, 4, n)", (x, n) -> x.loop(1, 4, n));
        int[][] like = {{0, 0, 1}, {0, 1, 0}, {1, 0, 0}, {7, 7, 0}, {7, 0, 7}, {0, 7, 7}, {1, 1, 1}};
        for (int[] e : like) {
            String text = "loop(" + e[0] + ", " + e[1] + ", " + e[2] + ")";
            calls.none(Scene.FULL, 1, text, x -> x.loop(e[0], e[1], e[2]));
            calls.none(Scene.NEW, 1, text, x -> x.loop(e[0], e[1], e[2]));
        }
        calls.none(Scene.SMALL, 1, "loop(0, 1, 3)", x -> x.loop(0, 1, 3));
    }

    private static void days() {
        due.says("DAYS 0 to 239");
        calls.yesBounds(Scene.FULL, 0, 239, "tell(0, n, 1, 1)", (x, n) -> x.tell(0, n, 1, 1));
        calls.yesBounds(Scene.FULL, 0, 239, "unsay(0, n)", (x, n) -> x.unsay(0, n));
        calls.yesBounds(Scene.FULL, 0, 239, "book(0, n, 0, 1)", (x, n) -> x.book(0, n, 0, 1));
        calls.bounds(Scene.FULL, 0, 239, "told(0, n, 1)", (x, n) -> x.told(0, n, 1));
        calls.bounds(Scene.FULL, 0, 239, "day(n)", (x, n) -> x.day(n));
        calls.none(Scene.NEW, 1, "day(240)", x -> x.day(240));
        calls.none(Scene.NEW, 1, "day(-1)", x -> x.day(-1));
    }

    private static void daysOfActive() {
        due.says("1: from above to, too; 5");
        calls.bounds(Scene.FULL, 0, 239, "active(0, n, 239)", (x, n) -> x.active(0, n, 239));
        calls.bounds(Scene.FULL, 0, 239, "active(0, 0, n)", (x, n) -> x.active(0, 0, n));
        calls.bounds(Scene.FULL, 0, 239, "active(0, n, n)", (x, n) -> x.active(0, n, n));
        calls.none(Scene.FULL, 1, "active(0, 1, 0)", x -> x.active(0, 1, 0));
        calls.none(Scene.FULL, 1, "active(0, 239, 238)", x -> x.active(0, 239, 238));
        calls.none(Scene.FULL, 1, "active(0, 239, 0)", x -> x.active(0, 239, 0));
    }

    private static void groups() {
        due.says("its GROUPS (0 to 20)");
        calls.yesBounds(Scene.FULL, 0, 20, "tell(0, 9, n, 100)", (x, n) -> x.tell(0, 9, n, 100));
        calls.yesBounds(Scene.FULL, 0, 20, "tell(0, 0, n, 200)", (x, n) -> x.tell(0, 0, n, 200));
        calls.no(Scene.FULL, 1, "tell(0, 0, 21, 21)", x -> x.tell(0, 0, 21, 21));
    }

    private static void spots() {
        due.says("SPOTS (0 to 200)");
        calls.yesBounds(Scene.FULL, 0, 200, "tell(0, 9, 0, n)", (x, n) -> x.tell(0, 9, 0, n));
        calls.yesBounds(Scene.FULL, 20, 200, "tell(0, 0, 20, n)", (x, n) -> x.tell(0, 0, 20, n));
    }

    private static void spotsByGroups() {
        due.says("not fewer SPOTS than GROUPS");
        for (int groups = 1; groups <= 20; groups++) {
            int one = groups;
            SpotRows x = Scene.FULL.make();
            due.met(x, "as many SPOTS", x.tell(0, 0, groups, groups));
            due.met(x, "told", x.told(0, 0, 2), 11 * groups);
            calls.no(Scene.FULL, 1, "one SPOT fewer than " + groups, y -> y.tell(0, 0, one, one - 1));
        }
    }

    private static void booksOfSoMany() {
        due.says("so many (1 to 60)");
        calls.yesBounds(Scene.FULL, 1, 60, "book(0, 0, 0, n)", (x, n) -> x.book(0, 0, 0, n));
        calls.yesBounds(Scene.FULL, 1, 60, "book(3, 180, 3, n)", (x, n) -> x.book(3, 180, 3, n));
    }

    private static void booksUpToTheLastDay() {
        due.says("1: also a DAY behind 239");
        for (int many = 1; many <= 60; many++) {
            int one = many;
            SpotRows x = Scene.FULL.make();
            due.met(x, "up to DAY 239 by " + many, x.book(3, 240 - many, 0, many));
            if (many % 10 < 2) {
                String text = "up to DAY 240 by " + many;
                calls.no(Scene.FULL, 1, text, y -> y.book(3, 241 - one, 0, one));
            }
        }
        calls.no(Scene.FULL, 1, "far behind", x -> x.book(3, 239, 0, 60));
        calls.no(Scene.FULL, 1, "wraps around", x -> x.book(3, Integer.MAX_VALUE, 0, 60));
    }

    private static void whats() {
        due.says("What 0: GROUPS, 1: SPOTS, 2: NUMBER (1, 5).");
        calls.bounds(Scene.FULL, 0, 2, "told(0, 239, n)", (x, n) -> x.told(0, 239, n));
    }

    private static void leasts() {
        due.says("LEAST (1 to 100) and ENOUGH (1).");
        calls.yesBounds(Scene.FULL, 1, 100, "rules(n, 5)", (x, n) -> x.rules(n, 5));
        calls.yesBounds(Scene.SMALL, 1, 100, "rules(n, 5)", (x, n) -> x.rules(n, 5));
    }

    private static void enoughs() {
        due.says("ENOUGH: 1 to 10; 3 at first");
        calls.yesBounds(Scene.FULL, 1, 10, "rules(50, n)", (x, n) -> x.rules(50, n));
        calls.yesBounds(Scene.SMALL, 1, 10, "rules(1, n)", (x, n) -> x.rules(1, n));
    }

    private static void groupsOfSteps() {
        due.says("the STEP of a number of GROUPS (0 to 20) of a to b");
        calls.bounds(Scene.FULL, 0, 20, "step(0, 7, n)", (x, n) -> x.step(0, 7, n));
        calls.none(Scene.FULL, 1, "step(0, 3, 21) without BOTH", x -> x.step(0, 3, 21));
    }

    private static void months() {
        due.says("MONTHS 0 to 23 have 10 DAYS each");
        calls.bounds(Scene.FULL, 0, 23, "month(n)", (x, n) -> x.month(n));
        calls.bounds(Scene.FULL, 0, 23, "smooth(n, 1)", (x, n) -> x.smooth(n, 1));
        calls.bounds(Scene.FULL, 0, 23, "smooth(n, 7)", (x, n) -> x.smooth(n, 7));
        calls.bounds(Scene.FULL, 0, 23, "change(n, 7)", (x, n) -> x.change(n, 7));
        calls.none(Scene.NEW, 1, "month(24)", x -> x.month(24));
        calls.none(Scene.NEW, 1, "smooth(-1, 1)", x -> x.smooth(-1, 1));
    }

    private static void widths() {
        due.says("SMOOTH of a MONTH by w (1, 3, 5 or 7)");
        for (int w = 1; w <= 7; w += 2) {
            SpotRows x = Scene.FULL.make();
            x.smooth(0, w);
            due.is("status after smooth(0, " + w + ")", x.status(), 0);
            x.turn(0, w, 1, true);
            due.is("status after turn(0, " + w + ", 1, true)", x.status(), 0);
        }
        int[] wrong = {0, 2, 4, 6, 8, 9, 15, -1, -3, -7, Integer.MIN_VALUE, Integer.MAX_VALUE};
        for (int w : wrong) {
            calls.none(Scene.FULL, 1, "smooth(0, " + w + ")", x -> x.smooth(0, w));
            calls.none(Scene.FULL, 1, "turn(0, " + w + ", 1, true)", x -> x.turn(0, w, 1, true));
            calls.none(Scene.FULL, 1, "turn(0, " + w + ", 1, false)", x -> x.turn(0, w, 1, false));
        }
    }

    private static void reaches() {
        due.says("HIGH by w and r (1 to 8)");
        calls.bounds(Scene.FULL, 1, 8, "turn(0, 1, n, true)", (x, n) -> x.turn(0, 1, n, true));
        calls.bounds(Scene.FULL, 1, 8, "turn(0, 7, n, false)", (x, n) -> x.turn(0, 7, n, false));
    }

    private static void eyesOfChange() {
        due.says("1: EYE 0, too; 5: either VALUE");
        calls.bounds(Scene.FULL, 1, 7, "change(0, n)", (x, n) -> x.change(0, n));
        calls.bounds(Scene.FULL, 1, 7, "change(23, n)", (x, n) -> x.change(23, n));
        calls.none(Scene.SMALL, 1, "change(0, 0)", x -> x.change(0, 0));
        calls.none(Scene.NEW, 1, "change(0, 0)", x -> x.change(0, 0));
    }
}
