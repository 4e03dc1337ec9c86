/** Where several refusals hold at once, the first one by its number, or by the call's own order. */
public final class OrderTest {
    private static final int MAX = Integer.MAX_VALUE;
    private static final Due due = new Due();
    private static final Refusals calls = new Refusals(due);

    public static void main(String[] args) {
        placesOfTrays();
        pours();
        books();
        tellings();
        pairs();
        chainsAndLoops();
        row();
        due.end("OrderTest");
    }

    private static void placesOfTrays() {
        due.says("STATUS of a call is the first of these that holds");
        for (int place : new int[] {-1, 60, MAX}) {
            calls.no(Scene.FULL, 1, "write(4, " + place + ")", x -> x.write(4, place, 1));
            calls.no(Scene.FULL, 1, "write(-1, " + place + ")", x -> x.write(-1, place, 1));
            calls.no(Scene.FULL, 2, "write(2, " + place + ")", x -> x.write(2, place, 1));
            calls.none(Scene.FULL, 1, "read(4, " + place + ")", x -> x.read(4, place));
            calls.none(Scene.FULL, 1, "read(-1, " + place + ")", x -> x.read(-1, place));
            calls.none(Scene.FULL, 2, "read(2, " + place + ")", x -> x.read(2, place));
        }
    }

    /** TRAY 2 is MISSING, TRAYS 0 and 3 are of sort 3 with 60 numbers, TRAY 1 is of sort 1 with 4. */
    private static void pours() {
        due.says("(1: below 0, too; 2; 7; 3; asked in this order)");
        pour(1, 4, 0, 2, 0, 1);
        pour(1, 2, 0, 4, 0, 1);
        pour(1, -1, 0, 2, 99, 1);
        pour(1, 2, -1, 0, 0, 1);
        pour(1, 0, 0, 2, -1, 1);
        pour(1, 2, 0, 2, 0, -1);
        pour(1, 0, -1, 1, 0, 1);
        pour(1, 0, 0, 1, -1, 1);
        pour(1, 1, 0, 0, 0, -1);
        pour(1, 0, -1, 3, 99, 1);
        pour(1, 0, 99, 3, -1, 1);
        pour(1, 0, 99, 3, 99, -1);
        pour(1, 0, MAX, 3, MAX, Integer.MIN_VALUE);
        pour(2, 2, 99, 0, 0, 1);
        pour(2, 0, 0, 2, 99, 1);
        pour(2, 0, 99, 2, 0, 1);
        pour(2, 1, 0, 2, 0, 99);
        pour(2, 2, 0, 1, 0, MAX);
        pour(2, 2, 99, 2, 99, 99);
        pour(7, 0, 60, 1, 0, 1);
        pour(7, 0, 0, 1, 4, 1);
        pour(7, 1, 0, 0, 0, 99);
        pour(7, 1, MAX, 3, MAX, MAX);
        pour(3, 0, 60, 3, 0, 1);
        pour(3, 1, 4, 1, 0, 1);
    }

    private static void pour(int status, int from, int place, int to, int at, int many) {
        String text = "pour(" + from + ", " + place + ", " + to + ", " + at + ", " + many + ")";
        calls.no(Scene.FULL, status, text, x -> x.pour(from, place, to, at, many));
    }

    /** TRAY 1 has a wrong number in place 2. */
    private static void books() {
        due.says("(1: also a DAY behind 239; 2; 3; 1: the numbers; asked in this order)");
        book(1, 8, 0, 2, 1);
        book(1, 0, 240, 2, 1);
        book(1, 0, -1, 2, 1);
        book(1, 0, 0, 2, 0);
        book(1, 0, 0, 2, 61);
        book(1, 0, 239, 2, 2);
        book(1, 0, 239, 1, 5);
        book(1, 0, 0, 1, 61);
        book(1, 8, 0, 1, 5);
        book(2, 0, 238, 2, 2);
        book(2, 0, 0, 2, 60);
        book(3, 0, 0, 1, 5);
        book(3, 0, 180, 1, 60);
        book(1, 0, 0, 1, 4);
        book(1, 0, 237, 1, 3);
    }

    private static void book(int status, int eye, int day, int tray, int many) {
        String text = "book(" + eye + ", " + day + ", " + tray + ", " + many + ")";
        calls.no(Scene.FULL, status, text, x -> x.book(eye, day, tray, many));
    }

    private static void tellings() {
        due.says("STATUS of a call is the first of these that holds");
        calls.no(Scene.NEW, 1, "unsay(0, 0)", x -> x.unsay(0, 0));
        calls.no(Scene.FULL, 1, "unsay(3, 240)", x -> x.unsay(3, 240));
        calls.none(Scene.FULL, 1, "told(3, 0, 3)", x -> x.told(3, 0, 3));
        calls.none(Scene.FULL, 1, "told(3, 240, 0)", x -> x.told(3, 240, 0));
        calls.none(Scene.NEW, 1, "told(0, 0, 0)", x -> x.told(0, 0, 0));
        calls.none(Scene.FULL, 1, "active(3, 5, 4)", x -> x.active(3, 5, 4));
        calls.none(Scene.FULL, 1, "active(3, 0, 240)", x -> x.active(3, 0, 240));
        calls.none(Scene.NEW, 1, "active(0, 0, 239)", x -> x.active(0, 0, 239));
    }

    private static void pairs() {
        due.says("STATUS of a call is the first of these that holds");
        calls.none(Scene.FULL, 1, "factor(3, 3)", x -> x.factor(3, 3));
        calls.none(Scene.FULL, 1, "factor(3, 8)", x -> x.factor(3, 8));
        calls.none(Scene.FULL, 1, "middle(3, 3)", x -> x.middle(3, 3));
        calls.none(Scene.FULL, 1, "middle(8, 3)", x -> x.middle(8, 3));
        calls.none(Scene.FULL, 1, "blind(3, 3)", x -> x.blind(3, 3));
        calls.none(Scene.FULL, 1, "blind(3, -1)", x -> x.blind(3, -1));
        calls.none(Scene.FULL, 1, "step(3, 3, 0)", x -> x.step(3, 3, 0));
        calls.none(Scene.FULL, 1, "step(0, 3, -1)", x -> x.step(0, 3, -1));
        calls.none(Scene.FULL, 1, "step(0, 3, 21)", x -> x.step(0, 3, 21));
    }

    private static void chainsAndLoops() {
        due.says("STATUS of a call is the first of these that holds");
        calls.none(Scene.FULL, 1, "chain(8, -1)", x -> x.chain(8, -1));
        calls.none(Scene.FULL, 1, "chain(-1, 9)", x -> x.chain(-1, 9));
        calls.none(Scene.NEW, 1, "chain(0, -1)", x -> x.chain(0, -1));
        calls.none(Scene.FULL, 1, "loop(2, 2, 3)", x -> x.loop(2, 2, 3));
        calls.none(Scene.FULL, 1, "loop(2, 3, 2)", x -> x.loop(2, 3, 2));
        calls.none(Scene.FULL, 1, "loop(2, 3, 3)", x -> x.loop(2, 3, 3));
        calls.none(Scene.FULL, 1, "loop(2, 3, 8)", x -> x.loop(2, 3, 8));
    }

    private static void row() {
        due.says("STATUS of a call is the first of these that holds");
        calls.none(Scene.FULL, 1, "smooth(1, 2)", x -> x.smooth(1, 2));
        calls.none(Scene.NEW, 1, "smooth(0, 9)", x -> x.smooth(0, 9));
        calls.none(Scene.NEW, 1, "turn(0, 2, 1, true)", x -> x.turn(0, 2, 1, true));
        calls.none(Scene.NEW, 1, "turn(0, 1, 9, true)", x -> x.turn(0, 1, 9, true));
        calls.none(Scene.FULL, 1, "turn(-1, 2, 1, true)", x -> x.turn(-1, 2, 1, true));
        calls.none(Scene.FULL, 1, "turn(-1, 1, 0, false)", x -> x.turn(-1, 1, 0, false));
        calls.none(Scene.FULL, 1, "turn(99, 1, 9, false)", x -> x.turn(99, 1, 9, false));
        calls.none(Scene.FULL, 1, "change(10, 0)", x -> x.change(10, 0));
        calls.none(Scene.FULL, 1, "change(10, 8)", x -> x.change(10, 8));
        calls.none(Scene.NEW, 1, "change(0, 1)", x -> x.change(0, 1));
    }
}
