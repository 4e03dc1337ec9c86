/** Promises 25 to 29: day, month, smooth, turn, change. */
public final class RowTest {
    private static final Due due = new Due();

    public static void main(String[] args) {
        days();
        months();
        greatestValues();
        smooths();
        turns();
        turnsOfLikeMonths();
        turnsReach();
        turnsOverGaps();
        smoothTurns();
        turnsByOneThousandth();
        changes();
        changesOfChains();
        due.end("RowTest");
    }

    private static void days() {
        due.says("VALUE of a DAY (1, 5).");
        SpotRows x = Due.withEasyEyes(3);
        x.tell(0, 0, 0, 10);
        x.tell(1, 0, 0, 30);
        x.tell(2, 1, 2, 2);
        due.met(x, "two eyes", x.day(0), (10 * 1000 + 30 * 333) / 2);
        due.lacks(x, "a lost eye", x.day(1), 5);
        x.tell(1, 2, 0, 0);
        due.met(x, "nought is told", x.day(2), 0);
        x.tell(1, 3, 1, 1);
        due.met(x, "one eye that is not 0", x.day(3), 11 * 333);
        x.tell(0, 2, 0, 5);
        due.met(x, "nought counts in the mean", x.day(2), 2500);
        due.lacks(x, "day -1", x.day(-1), 1);
        due.lacks(x, "day 240", x.day(240), 1);
        due.lacks(x, "day 239", x.day(239), 5);
        x.tell(0, 239, 20, 200);
        due.met(x, "day 239", x.day(239), 400000);
    }

    private static void months() {
        due.says("VALUE of a MONTH (1, 5).");
        SpotRows x = Due.withEasyEyes(1);
        x.rules(1, 3);
        x.tell(0, 10, 0, 1);
        x.tell(0, 19, 0, 1);
        x.tell(0, 9, 0, 100);
        x.tell(0, 20, 0, 100);
        due.lacks(x, "too few days", x.month(1), 5);
        x.tell(0, 15, 0, 3);
        due.met(x, "rounded down", x.month(1), 1666);
        x.tell(0, 16, 0, 0);
        due.met(x, "nought counts", x.month(1), 1250);
        due.lacks(x, "month -1", x.month(-1), 1);
        due.lacks(x, "month 24", x.month(24), 1);
        due.lacks(x, "month 23", x.month(23), 5);
        x.rules(1, 1);
        due.met(x, "month 0", x.month(0), 100000);
        due.met(x, "month 2", x.month(2), 100000);
        x.tell(0, 239, 1, 1);
        due.met(x, "month 23", x.month(23), 11000);
        x.rules(1, 10);
        for (int day = 0; day < 9; day++) {
            due.lacks(x, "month of less than 10", x.month(0), 5);
            x.tell(0, day, 0, 100);
        }
        due.met(x, "month of 10", x.month(0), 100000);
    }

    /** Sums of the greatest VALUES are above what an int holds. */
    private static void greatestValues() {
        due.says("VALUE of a MONTH (1, 5).");
        SpotRows x = Due.withEasyEyes(8);
        x.tell(0, 0, 0, 200);
        for (int eye = 1; eye < 8; eye++) {
            x.tell(eye, 0, 0, 2);
            x.tell(0, eye, 0, 200);
            x.tell(eye, eye, 0, 2);
        }
        for (int eye = 1; eye < 8; eye++) {
            x.tell(eye, 100, 20, 200);
        }
        due.met(x, "weight", x.weight(7), 100000);
        due.met(x, "day", x.day(100), 40000000);
        int day = 110;
        for (int eye = 2; eye < 8; eye++) {
            for (int k = 0; k < 8; k++) {
                x.unsay(eye, k);
            }
            x.unsay(eye, 100);
            x.tell(1, day, 0, 200);
            x.tell(eye, day, 0, 2);
            day++;
        }
        due.met(x, "weight", x.weight(7), 1000000);
        x.unsay(1, 100);
        for (int eye = 2; eye < 8; eye++) {
            x.tell(eye, 200, 20, 200);
        }
        due.met(x, "the greatest day", x.day(200), 400000000);
        for (int k = 1; k < 10; k++) {
            x.tell(7, 200 + k, 20, 200);
        }
        due.met(x, "the greatest month", x.month(20), 400000000);
        for (int month = 17; month < 24; month++) {
            x.tell(7, 10 * month, 20, 200);
        }
        due.met(x, "the greatest smooth", x.smooth(20, 7), 400000000);
    }

    /** Each MONTH has one DAY of a NUMBER; below 0: nothing. */
    private static SpotRows ofMonths(int... numbers) {
        SpotRows x = Due.withEasyEyes(1);
        for (int month = 0; month < numbers.length; month++) {
            if (numbers[month] >= 0) {
                x.tell(0, 10 * month + month % 10, 0, numbers[month]);
            }
        }
        return x;
    }

    private static void smooths() {
        due.says("SMOOTH (1, 5).");
        SpotRows x = ofMonths(1, 2, 4, -1, 16, 32, 64, 128, 0);
        due.met(x, "by 1", x.smooth(0, 1), 1000);
        due.met(x, "by 3, at the start", x.smooth(0, 3), 1500);
        due.met(x, "by 3", x.smooth(1, 3), 2333);
        due.met(x, "by 3 beside none", x.smooth(2, 3), 3000);
        due.met(x, "by 5 over none", x.smooth(2, 5), (1000 + 2000 + 4000 + 16000) / 4);
        due.met(x, "by 7", x.smooth(5, 7), (4 + 16 + 32 + 64 + 128) * 1000 / 6);
        due.lacks(x, "none itself", x.smooth(3, 7), 5);
        due.lacks(x, "none itself by 1", x.smooth(3, 1), 5);
        due.lacks(x, "month -1", x.smooth(-1, 1), 1);
        due.lacks(x, "month 24", x.smooth(24, 1), 1);
        int[] wrong = {-1, 0, 2, 4, 6, 8, 9, -3, Integer.MAX_VALUE, Integer.MIN_VALUE};
        for (int w : wrong) {
            due.lacks(x, "by " + w, x.smooth(0, w), 1);
        }
        x.tell(0, 239, 0, 10);
        x.tell(0, 229, 0, 20);
        x.tell(0, 209, 0, 31);
        due.met(x, "by 7 at the end", x.smooth(23, 7), 61000 / 3);
        due.met(x, "by 3 at the end", x.smooth(23, 3), 15000);
    }

    private static void holdsTurns(SpotRows x, int w, int r, boolean high, int... months) {
        for (int k = 0; k < months.length; k++) {
            due.met(x, "turn " + k, x.turn(k, w, r, high), months[k]);
        }
        due.lacks(x, "turn beyond", x.turn(months.length, w, r, high), 6);
    }

    private static void turns() {
        due.says("The k-th HIGH (high true) or LOW by w and r, from 0 on: its MONTH");
        SpotRows x = ofMonths(5, 3, 4, 9, 2, 1, 6, 6, 0, 7);
        holdsTurns(x, 1, 1, true, 0, 3, 6, 9);
        holdsTurns(x, 1, 1, false, 1, 5, 8);
        holdsTurns(x, 1, 2, true, 0, 3, 6, 9);
        holdsTurns(x, 1, 3, true, 3, 9);
        holdsTurns(x, 1, 2, false, 1, 5, 8);
        holdsTurns(x, 1, 3, false, 8);
        holdsTurns(x, 1, 8, true, 3);
        due.lacks(x, "k -1", x.turn(-1, 1, 1, true), 6);
        due.lacks(x, "k far below", x.turn(Integer.MIN_VALUE, 1, 1, false), 6);
        due.lacks(x, "k far beyond", x.turn(Integer.MAX_VALUE, 1, 1, false), 6);
        due.lacks(x, "w ahead of k", x.turn(-1, 2, 1, true), 1);
        due.lacks(x, "w 0", x.turn(0, 0, 1, true), 1);
        due.lacks(x, "w 9", x.turn(0, 9, 1, true), 1);
        due.lacks(x, "w -1", x.turn(0, -1, 1, true), 1);
        due.lacks(x, "r 0", x.turn(0, 1, 0, true), 1);
        due.lacks(x, "r 9", x.turn(-1, 1, 9, true), 1);
        due.lacks(x, "r -1", x.turn(0, 1, -1, true), 1);
    }

    private static void turnsOfLikeMonths() {
        due.says("no MONTH of the r ahead of it has a SMOOTH as great or greater, and "
            + "none of the r behind it a greater one");
        SpotRows x = ofMonths(4, 4, 4, 4);
        holdsTurns(x, 1, 1, true, 0);
        holdsTurns(x, 1, 1, false, 0);
        SpotRows y = ofMonths(1, 2, 2, 1, 1, 2);
        holdsTurns(y, 1, 1, true, 1, 5);
        holdsTurns(y, 1, 1, false, 0, 3);
        holdsTurns(y, 1, 3, true, 1);
        holdsTurns(y, 1, 3, false, 0);
        holdsTurns(y, 1, 4, true, 1);
    }

    private static void turnsReach() {
        due.says("HIGH by w and r (1 to 8) is a MONTH, if it is SMOOTH");
        SpotRows x = ofMonths(9, 1, 1, 1, 1, 1, 1, 1, 8, 9, 1, 1, 1, 1, 1, 1, 1, 1, 1, 1, 1, 1, 1, 2);
        holdsTurns(x, 1, 7, true, 0, 9, 23);
        holdsTurns(x, 1, 8, true, 0, 9, 23);
        x.unsay(0, 222);
        x.tell(0, 220, 0, 3);
        holdsTurns(x, 1, 1, true, 0, 9, 22);
        x.tell(0, 233, 0, 7);
        holdsTurns(x, 1, 1, true, 0, 9, 23);
        SpotRows y = ofMonths(9, 1, 1, 1, 1, 1, 1, 1, 8);
        holdsTurns(y, 1, 7, true, 0, 8);
        holdsTurns(y, 1, 8, true, 0);
        SpotRows z = ofMonths(8, 1, 1, 1, 1, 1, 1, 1, 9);
        holdsTurns(z, 1, 7, true, 0, 8);
        holdsTurns(z, 1, 8, true, 8);
    }

    private static void turnsOverGaps() {
        due.says("(MONTHS without a SMOOTH are not looked at.)");
        SpotRows x = ofMonths(-1, 5, -1, 6, -1, -1, 4, -1);
        holdsTurns(x, 1, 1, true, 1, 3, 6);
        holdsTurns(x, 1, 1, false, 1, 3, 6);
        holdsTurns(x, 1, 2, true, 3, 6);
        holdsTurns(x, 1, 2, false, 1, 6);
        holdsTurns(x, 1, 3, true, 3);
        holdsTurns(x, 1, 3, false, 1, 6);
    }

    private static void smoothTurns() {
        due.says("HIGH by w and r (1 to 8) is a MONTH, if it is SMOOTH");
        SpotRows x = ofMonths(0, 9, 0, 0, 30, 0, 27, 0, 0);
        holdsTurns(x, 1, 1, true, 1, 4, 6);
        holdsTurns(x, 3, 1, true, 0, 3, 5);
        holdsTurns(x, 3, 1, false, 1, 6, 8);
    }

    /** EYE 1 weighs 999: MONTHS are 999 and 1000. */
    private static void turnsByOneThousandth() {
        due.says("no MONTH of the r ahead of it has a SMOOTH as great or greater, and "
            + "none of the r behind it a greater one");
        SpotRows x = Due.withEasyEyes(2);
        for (int day = 0; day < 5; day++) {
            x.tell(0, day, 0, day == 0 ? 199 : 200);
            x.tell(1, day, 0, 200);
        }
        due.met(x, "weight", x.weight(1), 999);
        x.tell(1, 100, 0, 1);
        x.tell(0, 110, 0, 1);
        x.tell(1, 120, 0, 1);
        due.met(x, "month", x.month(10), 999);
        due.met(x, "month", x.month(11), 1000);
        holdsTurns(x, 1, 1, true, 0, 11);
        holdsTurns(x, 1, 1, false, 0, 10, 12);
        x.unsay(0, 110);
        x.unsay(1, 120);
        x.tell(0, 90, 0, 1);
        holdsTurns(x, 1, 1, true, 0, 9);
        holdsTurns(x, 1, 1, false, 0, 10);
    }

    private static void changes() {
        due.says("CHANGE of a MONTH by an EYE (1: EYE 0, too; 5: either VALUE).");
        SpotRows x = Due.withEasyEyes(3);
        x.tell(0, 0, 0, 1);
        x.tell(1, 0, 0, 3);
        due.met(x, "month", x.month(0), 999);
        due.met(x, "-1 is not NONE", x.change(0, 1), -1);
        due.met(x, "an eye that tells nothing", x.change(0, 2), 0);
        x.tell(1, 12, 0, 5);
        due.lacks(x, "no value without it", x.change(1, 1), 5);
        due.met(x, "a value with it", x.change(1, 2), 0);
        due.lacks(x, "no value with it", x.change(2, 1), 5);
        x.tell(0, 11, 0, 7);
        due.met(x, "another day less", x.change(1, 1), (7000 + 5 * 333) / 2 - 7000);
        x.rules(1, 2);
        due.lacks(x, "too few days without it", x.change(1, 1), 5);
        due.lacks(x, "eye 0", x.change(0, 0), 1);
        due.lacks(x, "eye -1", x.change(0, -1), 1);
        due.lacks(x, "eye 3", x.change(0, 3), 1);
        due.lacks(x, "month -1", x.change(-1, 1), 1);
        due.lacks(x, "month 24", x.change(24, 1), 1);
        due.met(x, "nothing is forgotten", x.told(1, 0, 1), 3);
    }

    /** Without an EYE another CHAIN may be the one, or none. */
    private static void changesOfChains() {
        due.says("WITHOUT an EYE (not 0): all that, as if it TOLD nothing.");
        SpotRows x = Due.withEasyEyes(5);
        x.tell(1, 0, 0, 1);
        x.tell(0, 0, 0, 2);
        x.tell(3, 1, 0, 1);
        x.tell(1, 1, 0, 1);
        x.tell(3, 100, 0, 10);
        due.met(x, "month by 3, 1, 0", x.month(10), 20000);
        due.lacks(x, "lost without 1", x.change(10, 1), 5);
        x.tell(0, 101, 0, 7);
        due.met(x, "one day less without 1", x.change(10, 1), 13500 - 7000);
        x.tell(2, 2, 0, 1);
        x.tell(0, 2, 0, 5);
        x.tell(3, 3, 0, 1);
        x.tell(2, 3, 0, 1);
        x.unsay(0, 101);
        due.met(x, "3, 1, 0 is the first", x.month(10), 20000);
        due.met(x, "3, 2, 0 without 1", x.change(10, 1), 20000 - 50000);
        due.met(x, "as it was without 2", x.change(10, 2), 0);
        due.met(x, "as it was", x.weight(3), 2000);
    }
}
