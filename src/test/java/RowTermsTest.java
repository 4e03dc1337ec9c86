import java.util.Arrays;

/** The edges that 'Terms' names from VALUE to BLIND (==== 3), one test for each, on both sides. */
public final class RowTermsTest {
    private static final int MONTHS = 24;
    private static final int NOTHING = -1;
    private static final Due due = new Due();

    public static void main(String[] args) {
        valueIsRoundedDown();
        valueOfEyesThatAreNotLost();
        daysOfMonths();
        monthIsRoundedDown();
        enoughAtFirst();
        enoughOfRules();
        smoothAsFarAsW();
        smoothAtTheEnds();
        smoothOfThoseThatHaveOne();
        smoothIsRoundedDown();
        smoothIfItHasOneItself();
        highAsGreatAhead();
        highAsGreatBehind();
        highAsFarAsR();
        lowAsLittleAhead();
        lowAsLittleBehind();
        lowAsFarAsR();
        turnsAtTheEnds();
        turnsBesideNoSmooth();
        turnsByNumber();
        withoutAnEye();
        changeOfAMonth();
        changeIsBelowNought();
        activeByGroups();
        activeFromTo();
        blindNoMore();
        blindFrom0To20();
        due.end("RowTermsTest");
    }

    /** EYE 0 TELLS in each MONTH of one DAY; below 0: nothing. */
    private static SpotRows ofMonths(int... numbers) {
        SpotRows x = Due.withEasyEyes(1);
        for (int month = 0; month < numbers.length; month++) {
            if (numbers[month] != NOTHING) {
                x.tell(0, 10 * month + month % 10, 0, numbers[month]);
            }
        }
        return x;
    }

    private static int[] allLike(int number) {
        int[] numbers = new int[MONTHS];
        Arrays.fill(numbers, number);
        return numbers;
    }

    private static void valueIsRoundedDown() {
        due.says("NUMBER times WEIGHT, together, by how many they are, rounded down (so in thousandths)");
        SpotRows x = Due.withEasyEyes(3);
        x.tell(0, 0, 0, 199);
        x.tell(1, 0, 0, 200);
        due.met(x, "weight(1)", x.weight(1), 995);
        x.tell(1, 9, 0, 1);
        due.met(x, "995 by 1", x.day(9), 995);
        x.tell(2, 9, 0, 1);
        due.met(x, "weight(2)", x.weight(2), 995);
        due.met(x, "995 and 995 by 2", x.day(9), 995);
        x.tell(0, 100, 0, 1);
        x.tell(1, 101, 0, 1);
        x.tell(2, 101, 0, 2);
        x.tell(2, 9, 0, 2);
        due.met(x, "weight(2)", x.weight(2), 497);
        due.met(x, "995 and 994 by 2", x.day(101), 994);
        x.tell(1, 101, 0, 2);
        due.met(x, "weight(2)", x.weight(2), 746);
        due.met(x, "1,990 and 1,492 by 2", x.day(101), 1741);
        due.met(x, "1,000 by 1", x.day(100), 1000);
    }

    private static void valueOfEyesThatAreNotLost() {
        due.says("of all EYES that TELL of it and are not LOST");
        SpotRows x = Due.withEasyEyes(2);
        x.tell(0, 50, 0, 10);
        x.tell(1, 51, 0, 70);
        due.met(x, "one EYE", x.day(50), 10000);
        due.lacks(x, "a LOST one", x.day(51), 5);
        x.tell(0, 51, 0, 0);
        due.met(x, "0 TELLS nought, and 1 is LOST", x.day(51), 0);
        x.tell(0, 51, 0, 35);
        due.met(x, "two EYES", x.day(51), (35000 + 70 * 500) / 2);
        x.unsay(0, 51);
        due.lacks(x, "LOST again", x.day(51), 5);
    }

    private static void daysOfMonths() {
        due.says("MONTHS 0 to 23 have 10 DAYS each (MONTH 0: 0 to 9)");
        SpotRows x = Due.withEasyEyes(1);
        for (int month = 0; month < MONTHS; month++) {
            due.lacks(x, "month(" + month + ")", x.month(month), 5);
            x.tell(0, 10 * month, 0, 10 + month);
            due.met(x, "its first DAY", x.month(month), 1000 * (10 + month));
            x.unsay(0, 10 * month);
            x.tell(0, 10 * month + 9, 0, 50 + month);
            due.met(x, "its last DAY", x.month(month), 1000 * (50 + month));
        }
        for (int month = 0; month < MONTHS; month++) {
            due.met(x, "month(" + month + ")", x.month(month), 1000 * (50 + month));
        }
    }

    private static void monthIsRoundedDown() {
        due.says("the mean of the VALUES of its DAYS that have one, rounded down");
        SpotRows x = Due.withEasyEyes(1);
        x.tell(0, 30, 0, 1);
        due.met(x, "1", x.month(3), 1000);
        x.tell(0, 31, 0, 0);
        due.met(x, "1 by 2", x.month(3), 500);
        x.tell(0, 39, 0, 0);
        due.met(x, "1 by 3", x.month(3), 333);
        x.tell(0, 39, 0, 1);
        due.met(x, "2 by 3", x.month(3), 666);
        x.tell(0, 31, 0, 1);
        due.met(x, "3 by 3", x.month(3), 1000);
    }

    private static void enoughAtFirst() {
        due.says("none if fewer than so many DAYS have one (ENOUGH: 1 to 10; 3 at first)");
        SpotRows x = Due.withEyes(1);
        x.tell(0, 10, 0, 3);
        due.lacks(x, "1 DAY", x.month(1), 5);
        x.tell(0, 19, 0, 3);
        due.lacks(x, "2 DAYS", x.month(1), 5);
        x.tell(0, 20, 0, 3);
        x.tell(0, 9, 0, 3);
        due.lacks(x, "2 DAYS, and some beside it", x.month(1), 5);
        x.tell(0, 15, 0, 0);
        due.met(x, "3 DAYS", x.month(1), 2000);
        x.unsay(0, 10);
        due.lacks(x, "2 DAYS again", x.month(1), 5);
    }

    private static void enoughOfRules() {
        due.says("none if fewer than so many DAYS have one (ENOUGH: 1 to 10; 3 at first)");
        SpotRows x = Due.withEyes(1);
        for (int many = 0; many <= 10; many++) {
            for (int enough = 1; enough <= 10; enough++) {
                x.rules(10, enough);
                if (many < enough) {
                    due.lacks(x, many + " DAYS, ENOUGH " + enough, x.month(23), 5);
                } else {
                    due.met(x, many + " DAYS, ENOUGH " + enough, x.month(23), 7000);
                }
            }
            if (many < 10) {
                x.tell(0, 239 - many, 0, 7);
            }
        }
    }

    private static void smoothAsFarAsW() {
        due.says("from (w - 1) by 2 ahead to as many behind");
        for (int w = 1; w <= 7; w += 2) {
            for (int away = -5; away <= 5; away++) {
                int[] numbers = allLike(0);
                numbers[12 + away] = 105;
                boolean within = Math.abs(away) <= (w - 1) / 2;
                SpotRows x = ofMonths(numbers);
                String text = "smooth(12, " + w + "), with 105 by " + away;
                due.met(x, text, x.smooth(12, w), within ? 105000 / w : 0);
            }
        }
    }

    private static void smoothAtTheEnds() {
        due.says("that there are and that have one");
        SpotRows x = ofMonths(allLike(0));
        x.tell(0, 0, 0, 60);
        x.tell(0, 233, 0, 60);
        int[] counts = {1, 2, 3, 4};
        for (int side = 0; side < 4; side++) {
            int w = 2 * side + 1;
            due.met(x, "smooth(0, " + w + ")", x.smooth(0, w), 60000 / counts[side]);
            due.met(x, "smooth(23, " + w + ")", x.smooth(23, w), 60000 / counts[side]);
            due.met(x, "smooth(1, " + w + ")", x.smooth(1, w), side == 0 ? 0 : 60000 / (side + 2));
            due.met(x, "smooth(22, " + w + ")", x.smooth(22, w), side == 0 ? 0 : 60000 / (side + 2));
        }
    }

    private static void smoothOfThoseThatHaveOne() {
        due.says("that there are and that have one");
        SpotRows x = ofMonths(NOTHING, 6, NOTHING, 12, 0, NOTHING, 30);
        due.met(x, "smooth(3, 1)", x.smooth(3, 1), 12000);
        due.met(x, "smooth(3, 3): nothing and nought", x.smooth(3, 3), 6000);
        due.met(x, "smooth(3, 5)", x.smooth(3, 5), 6000);
        due.met(x, "smooth(3, 7)", x.smooth(3, 7), 12000);
        due.met(x, "smooth(6, 3), all alone", x.smooth(6, 3), 30000);
    }

    private static void smoothIsRoundedDown() {
        due.says("that there are and that have one, rounded down");
        SpotRows x = ofMonths(0, 1, 0, 1, 1, 1);
        due.met(x, "1 by 3", x.smooth(1, 3), 333);
        due.met(x, "2 by 3", x.smooth(3, 3), 666);
        due.met(x, "3 by 3", x.smooth(4, 3), 1000);
        due.met(x, "3 by 5", x.smooth(2, 5), 600);
        due.met(x, "4 by 6", x.smooth(3, 7), 666);
        due.met(x, "3 by 4, at the end", x.smooth(5, 7), 750);
    }

    private static void smoothIfItHasOneItself() {
        due.says("none if it has none itself");
        SpotRows x = ofMonths(4, NOTHING, 8);
        for (int w = 1; w <= 7; w += 2) {
            due.lacks(x, "smooth(1, " + w + ")", x.smooth(1, w), 5);
        }
        x.tell(0, 15, 0, 0);
        due.met(x, "smooth(1, 1), with nought", x.smooth(1, 1), 0);
        due.met(x, "smooth(1, 3), with nought", x.smooth(1, 3), 4000);
    }

    private static void holdsTurns(SpotRows x, int r, boolean high, int... months) {
        String text = (high ? "HIGH " : "LOW ") + "by " + r + ", ";
        for (int k = 0; k < months.length; k++) {
            due.met(x, text + k, x.turn(k, 1, r, high), months[k]);
        }
        due.lacks(x, text + "beyond", x.turn(months.length, 1, r, high), 6);
    }

    private static void highAsGreatAhead() {
        due.says("no MONTH of the r ahead of it has a SMOOTH as great or greater");
        holdsTurns(ofMonths(8, 9), 1, true, 1);
        holdsTurns(ofMonths(9, 9), 1, true, 0);
        holdsTurns(ofMonths(10, 9), 1, true, 0);
        holdsTurns(ofMonths(8, 0, 9), 2, true, 2);
        holdsTurns(ofMonths(9, 0, 9), 2, true, 0);
        holdsTurns(ofMonths(10, 0, 9), 2, true, 0);
    }

    private static void highAsGreatBehind() {
        due.says("and none of the r behind it a greater one");
        holdsTurns(ofMonths(0, 9, 8), 1, true, 1);
        holdsTurns(ofMonths(0, 9, 9), 1, true, 1);
        holdsTurns(ofMonths(0, 9, 10), 1, true, 2);
        holdsTurns(ofMonths(0, 9, 0, 9), 2, true, 1);
        holdsTurns(ofMonths(0, 9, 0, 10), 2, true, 3);
    }

    private static void highAsFarAsR() {
        due.says("HIGH by w and r (1 to 8)");
        for (int r = 1; r <= 8; r++) {
            for (int away = 1; away <= 9; away++) {
                int[] numbers = allLike(1);
                numbers[12] = 9;
                numbers[12 - away] = 9;
                SpotRows x = ofMonths(numbers);
                due.yes("as great " + away + " ahead, r " + r, isTurn(x, 12, r, true) == (away > r));
                due.yes("as great " + away + " behind, r " + r, isTurn(x, 12 - away, r, true));
                x.tell(0, 122, 0, 10);
                due.yes("less " + away + " ahead, r " + r, isTurn(x, 12, r, true));
                boolean free = isTurn(x, 12 - away, r, true);
                due.yes("greater " + away + " behind, r " + r, free == (away > r));
            }
        }
    }

    private static boolean isTurn(SpotRows x, int month, int r, boolean high) {
        for (int k = 0; k < MONTHS; k++) {
            int found = x.turn(k, 1, r, high);
            if (found == month || found == SpotRows.NONE) {
                return found == month;
            }
        }
        return false;
    }

    private static void lowAsLittleAhead() {
        due.says("LOW likewise with less for greater");
        holdsTurns(ofMonths(5, 4), 1, false, 1);
        holdsTurns(ofMonths(4, 4), 1, false, 0);
        holdsTurns(ofMonths(3, 4), 1, false, 0);
        holdsTurns(ofMonths(5, 9, 4), 2, false, 2);
        holdsTurns(ofMonths(4, 9, 4), 2, false, 0);
        holdsTurns(ofMonths(3, 9, 4), 2, false, 0);
    }

    private static void lowAsLittleBehind() {
        due.says("LOW likewise with less for greater");
        holdsTurns(ofMonths(9, 4, 5), 1, false, 1);
        holdsTurns(ofMonths(9, 4, 4), 1, false, 1);
        holdsTurns(ofMonths(9, 4, 3), 1, false, 2);
        holdsTurns(ofMonths(9, 4, 9, 4), 2, false, 1);
        holdsTurns(ofMonths(9, 4, 9, 3), 2, false, 3);
    }

    private static void lowAsFarAsR() {
        due.says("LOW likewise with less for greater");
        for (int r = 1; r <= 8; r++) {
            for (int away = 1; away <= 9; away++) {
                int[] numbers = allLike(9);
                numbers[12] = 1;
                numbers[12 - away] = 1;
                SpotRows x = ofMonths(numbers);
                due.yes("as little " + away + " ahead, r " + r, isTurn(x, 12, r, false) == (away > r));
                due.yes("as little " + away + " behind, r " + r, isTurn(x, 12 - away, r, false));
                x.tell(0, 122, 0, 0);
                due.yes("more " + away + " ahead, r " + r, isTurn(x, 12, r, false));
                boolean free = isTurn(x, 12 - away, r, false);
                due.yes("less " + away + " behind, r " + r, free == (away > r));
            }
        }
    }

    private static void turnsAtTheEnds() {
        due.says("HIGH by w and r (1 to 8) is a MONTH, if it is SMOOTH");
        int[] falling = new int[MONTHS];
        int[] rising = new int[MONTHS];
        for (int month = 0; month < MONTHS; month++) {
            falling[month] = 100 - month;
            rising[month] = 100 + month;
        }
        for (int r = 1; r <= 8; r++) {
            holdsTurns(ofMonths(falling), r, true, 0);
            holdsTurns(ofMonths(falling), r, false, 23);
            holdsTurns(ofMonths(rising), r, true, 23);
            holdsTurns(ofMonths(rising), r, false, 0);
        }
    }

    private static void turnsBesideNoSmooth() {
        due.says("(MONTHS without a SMOOTH are not looked at.)");
        for (int r = 1; r <= 8; r++) {
            holdsTurns(ofMonths(NOTHING, NOTHING), r, true);
            holdsTurns(ofMonths(NOTHING, NOTHING), r, false);
            holdsTurns(ofMonths(NOTHING, 0, NOTHING), r, true, 1);
            holdsTurns(ofMonths(NOTHING, 0, NOTHING), r, false, 1);
        }
        holdsTurns(ofMonths(5, NOTHING, 4), 1, true, 0, 2);
        holdsTurns(ofMonths(5, NOTHING, 4), 1, false, 0, 2);
        holdsTurns(ofMonths(5, NOTHING, 4), 2, true, 0);
        holdsTurns(ofMonths(5, NOTHING, 4), 2, false, 2);
        holdsTurns(ofMonths(5, 0, 4), 1, true, 0, 2);
        holdsTurns(ofMonths(5, 0, 4), 1, false, 1);
    }

    private static void turnsByNumber() {
        due.says("from 0 on: its MONTH (1; 6: there is none such, k below 0, too)");
        int[] numbers = new int[MONTHS];
        for (int month = 0; month < MONTHS; month++) {
            numbers[month] = month % 2 == 0 ? 3 : 5;
        }
        SpotRows x = ofMonths(numbers);
        for (int k = 0; k < 12; k++) {
            due.met(x, "HIGH " + k, x.turn(k, 1, 1, true), 2 * k + 1);
            due.met(x, "LOW " + k, x.turn(k, 1, 1, false), 2 * k);
        }
        for (int k : new int[] {-1, 12, 13, Integer.MIN_VALUE, Integer.MAX_VALUE}) {
            due.lacks(x, "HIGH " + k, x.turn(k, 1, 1, true), 6);
            due.lacks(x, "LOW " + k, x.turn(k, 1, 1, false), 6);
        }
    }

    private static void withoutAnEye() {
        due.says("WITHOUT an EYE (not 0): all that, as if it TOLD nothing.");
        SpotRows x = Due.withEasyEyes(4);
        x.tell(0, 0, 0, 10);
        x.tell(1, 0, 0, 5);
        x.tell(1, 1, 0, 5);
        x.tell(2, 1, 0, 5);
        x.tell(2, 30, 0, 20);
        x.tell(0, 31, 0, 10);
        due.lacks(x, "change(3, 0)", x.change(3, 0), 1);
        due.met(x, "WITHOUT 1 the EYE 2 is LOST", x.change(3, 1), (40000 + 10000) / 2 - 10000);
        due.met(x, "WITHOUT 2", x.change(3, 2), (40000 + 10000) / 2 - 10000);
        due.met(x, "WITHOUT 3, which TELLS nothing", x.change(3, 3), 0);
        due.met(x, "all is as it was", x.month(3), 25000);
        due.met(x, "all is as it was", x.weight(2), 2000);
        x.unsay(1, 1);
        due.met(x, "LOST already", x.change(3, 1), 0);
    }

    private static void changeOfAMonth() {
        due.says("VALUE of the MONTH less its VALUE WITHOUT that EYE");
        SpotRows x = Due.withEasyEyes(2);
        x.tell(0, 239, 0, 10);
        x.tell(1, 239, 0, 10);
        due.met(x, "as great", x.change(23, 1), 0);
        x.tell(1, 238, 0, 12);
        due.met(x, "greater", x.change(23, 1), 1000);
        x.tell(1, 238, 0, 8);
        due.met(x, "less", x.change(23, 1), -1000);
        x.rules(1, 2);
        due.lacks(x, "too few DAYS WITHOUT it", x.change(23, 1), 5);
        x.tell(0, 230, 0, 10);
        due.met(x, "just ENOUGH WITHOUT it", x.change(23, 1), 28000 / 3 - 10000);
        x.rules(1, 4);
        due.lacks(x, "too few DAYS with it", x.change(23, 1), 5);
    }

    private static void changeIsBelowNought() {
        due.says("STATUS tells NONE from -1.");
        SpotRows x = Due.withEasyEyes(2);
        x.tell(0, 0, 0, 1);
        x.tell(1, 0, 0, 3);
        due.met(x, "-1", x.change(0, 1), -1);
        due.lacks(x, "NONE", x.change(1, 1), 5);
        x.tray(0, 0, 1);
        x.write(0, 0, -1);
        due.met(x, "-1", x.read(0, 0), -1);
        due.lacks(x, "NONE", x.read(0, 1), 3);
    }

    private static void activeByGroups() {
        due.says("DAYS with GROUPS above 0, by all of which it TELLS: a FRACTION");
        SpotRows x = Due.withEasyEyes(1);
        due.lacks(x, "it TELLS of none", x.active(0, 0, 239), 5);
        x.tell(0, 4, 0, 200);
        due.tells(x, "GROUPS 0, with SPOTS", x.active(0, 0, 239), 0, 1);
        x.tell(0, 4, 1, 1);
        due.tells(x, "GROUPS 1", x.active(0, 0, 239), 1, 1);
        x.tell(0, 5, 0, 0);
        due.tells(x, "1 of 2", x.active(0, 0, 239), 1, 2);
        x.unsay(0, 4);
        due.tells(x, "0 of 1", x.active(0, 0, 239), 0, 1);
    }

    private static void activeFromTo() {
        due.says("ACTIVE of an EYE from a DAY to a DAY");
        SpotRows x = Due.withEasyEyes(2);
        x.tell(0, 0, 1, 1);
        x.tell(0, 20, 1, 1);
        x.tell(0, 22, 0, 0);
        x.tell(0, 239, 0, 0);
        x.tell(1, 0, 1, 1);
        due.tells(x, "from 20 to 22", x.active(0, 20, 22), 1, 2);
        due.tells(x, "from 21 to 22", x.active(0, 21, 22), 0, 1);
        due.tells(x, "from 20 to 21", x.active(0, 20, 21), 1, 1);
        due.lacks(x, "from 21 to 21", x.active(0, 21, 21), 5);
        due.tells(x, "from 20 to 20", x.active(0, 20, 20), 1, 1);
        due.tells(x, "from 0 to 239", x.active(0, 0, 239), 1, 2);
        due.tells(x, "from 1 to 239", x.active(0, 1, 239), 1, 3);
        due.tells(x, "from 0 to 238", x.active(0, 0, 238), 2, 3);
        due.lacks(x, "from 21 to 20", x.active(0, 21, 20), 1);
    }

    private static void groups(SpotRows x, int day, int a, int b) {
        x.tell(0, day, a, 50);
        x.tell(1, day, b, 50);
    }

    private static void blindNoMore() {
        due.says("no more have GROUPS of the other one above s than have GROUPS of this one above 0");
        SpotRows x = Due.withEasyEyes(2);
        groups(x, 0, 0, 5);
        groups(x, 100, 1, 7);
        groups(x, 239, 0, 9);
        due.met(x, "1 of 3 is active: 7", x.blind(0, 1), 7);
        groups(x, 0, 1, 5);
        due.met(x, "2 of 3 are active: 5", x.blind(0, 1), 5);
        groups(x, 239, 1, 9);
        due.met(x, "3 of 3 are active: 0", x.blind(0, 1), 0);
        groups(x, 0, 0, 5);
        groups(x, 100, 0, 7);
        groups(x, 239, 0, 9);
        due.met(x, "none is active: 9", x.blind(0, 1), 9);
        groups(x, 0, 20, 9);
        due.met(x, "two are like: 9", x.blind(0, 1), 9);
        x.tell(0, 50, 3, 3);
        due.met(x, "a DAY of one alone", x.blind(0, 1), 9);
        x.tell(1, 50, 0, 0);
        due.met(x, "a DAY of both", x.blind(0, 1), 7);
    }

    private static void blindFrom0To20() {
        due.says("the least number s (0 to 20)");
        SpotRows x = Due.withEasyEyes(2);
        due.lacks(x, "BOTH are none", x.blind(0, 1), 6);
        for (int groups = 0; groups <= 20; groups++) {
            groups(x, 8, 0, groups);
            due.met(x, "the other one TELLS " + groups, x.blind(0, 1), groups);
            due.met(x, "this one TELLS " + groups, x.blind(1, 0), 0);
        }
        groups(x, 8, 1, 20);
        due.met(x, "it sees all", x.blind(0, 1), 0);
    }
}
