/** The edges that 'Terms' names up to LOOP (==== 1 and 2), one test for each, on both sides. */
public final class TermsTest {
    private static final Due due = new Due();

    public static void main(String[] args) {
        nothingIsNeverNought();
        cutTo8();
        cutTo16();
        cutTo32();
        cutTo64();
        eyesAtMost8();
        nothingAtFirst();
        numberOfBoth();
        bothOfTwo();
        factorIsRoundedDown();
        leastAtFirst();
        leastOfRules();
        sumsAboveNought();
        factorFrom10To100000();
        middleOfNumbersAboveNought();
        middleOfEvenCounts();
        middleBySize();
        stepsNeverFall();
        stepNotAbove();
        fewestEyes();
        greatestLeastBoth();
        firstByTheNumbers();
        chainOfEyeNought();
        weightIsRoundedDownEachTime();
        weightAtMostAMillion();
        lostEyes();
        loopIsRoundedDown();
        fractionsWithoutACommonDivisor();
        due.end("TermsTest");
    }

    /** From 0 to 400; above 200 it takes GROUPS. */
    private static void number(SpotRows x, int eye, int day, int number) {
        int groups = number > 200 ? (number - 191) / 10 : 0;
        due.yes("tell of " + number, x.tell(eye, day, groups, number - 10 * groups));
    }

    /** On so many DAYS the NUMBERS of a and of b come to these sums. */
    private static int link(SpotRows x, int from, int many, int[] a, int[] b) {
        for (int k = 0; k < many; k++) {
            number(x, a[0], from + k, a[1] / many + (k < a[1] % many ? 1 : 0));
            number(x, b[0], from + k, b[1] / many + (k < b[1] % many ? 1 : 0));
        }
        return from + many;
    }

    private static int[] sum(int eye, int sum) {
        return new int[] {eye, sum};
    }

    private static void groups(SpotRows x, int day, int a, int b) {
        x.tell(0, day, a, 50);
        x.tell(1, day, b, 50);
    }

    private static void nothingIsNeverNought() {
        due.says("or nothing (which is never nought)");
        SpotRows x = Due.withEasyEyes(2);
        x.tell(0, 7, 0, 0);
        due.met(x, "GROUPS of nought", x.told(0, 7, 0), 0);
        due.lacks(x, "GROUPS of nothing", x.told(0, 8, 0), 5);
        due.met(x, "DAYS with nought", x.days(0), 1);
        due.met(x, "DAYS with nothing", x.days(1), 0);
        due.met(x, "VALUE of nought", x.day(7), 0);
        due.lacks(x, "VALUE of nothing", x.day(8), 5);
        x.tell(1, 8, 0, 0);
        due.met(x, "BOTH without nought", x.both(0, 1), 0);
        x.tell(1, 7, 0, 0);
        due.met(x, "BOTH with nought", x.both(0, 1), 1);
        due.met(x, "a MONTH of nought", x.month(0), 0);
        due.lacks(x, "a MONTH of nothing", x.month(1), 5);
    }

    private static void cut(int sort, long v, long due8) {
        SpotRows x = new SpotRows();
        x.tray(1, sort, 3);
        due.met(x, "write of " + v, x.write(1, 1, v));
        due.met(x, "read of " + v, x.read(1, 1), due8);
        due.met(x, "read ahead of it", x.read(1, 0), 0);
        due.met(x, "read behind it", x.read(1, 2), 0);
    }

    private static void cutTo8() {
        due.says("A number comes to a place of a TRAY, cut to its sort");
        cut(0, 127, 127);
        cut(0, 128, -128);
        cut(0, -128, -128);
        cut(0, -129, 127);
        cut(0, 255, -1);
        cut(0, 256, 0);
        cut(0, Long.MAX_VALUE, -1);
        cut(0, Long.MIN_VALUE, 0);
    }

    private static void cutTo16() {
        due.says("A number comes to a place of a TRAY, cut to its sort");
        cut(1, 32767, 32767);
        cut(1, 32768, -32768);
        cut(1, -32768, -32768);
        cut(1, -32769, 32767);
        cut(1, 65535, -1);
        cut(1, 65536, 0);
        cut(1, Long.MAX_VALUE, -1);
        cut(1, Long.MIN_VALUE, 0);
    }

    private static void cutTo32() {
        due.says("A number comes to a place of a TRAY, cut to its sort");
        cut(2, 2147483647L, 2147483647L);
        cut(2, 2147483648L, -2147483648L);
        cut(2, -2147483648L, -2147483648L);
        cut(2, -2147483649L, 2147483647L);
        cut(2, 4294967295L, -1);
        cut(2, 4294967296L, 0);
        cut(2, Long.MAX_VALUE, -1);
        cut(2, Long.MIN_VALUE, 0);
    }

    private static void cutTo64() {
        due.says("A number comes to a place of a TRAY, cut to its sort");
        cut(3, Long.MAX_VALUE, Long.MAX_VALUE);
        cut(3, Long.MIN_VALUE, Long.MIN_VALUE);
        cut(3, 4294967296L, 4294967296L);
        cut(3, -1, -1);
    }

    private static void eyesAtMost8() {
        due.says("EYES, at most 8, numbered as they come");
        SpotRows x = new SpotRows();
        for (int eye = 0; eye < 8; eye++) {
            due.lacks(x, "an EYE that is not yet", x.days(eye), 1);
            due.met(x, "an EYE more", x.eye(), eye);
            due.met(x, "the EYE", x.days(eye), 0);
        }
        due.lacks(x, "one too many", x.eye(), 4);
        due.lacks(x, "the ninth", x.days(8), 1);
    }

    private static void nothingAtFirst() {
        due.says("or nothing (at first)");
        SpotRows x = Due.withEyes(1);
        for (int day = 0; day < 240; day++) {
            due.lacks(x, "told(0, " + day + ", 0)", x.told(0, day, 0), 5);
        }
        SpotRows y = Due.withEyes(7);
        for (int eye = 0; eye < 7; eye++) {
            y.tell(eye, 0, 1, 1);
            y.tell(eye, 239, 1, 1);
        }
        due.met(y, "an EYE more", y.eye(), 7);
        due.met(y, "days(7)", y.days(7), 0);
        due.lacks(y, "told(7, 0, 0)", y.told(7, 0, 0), 5);
        due.lacks(y, "told(7, 239, 0)", y.told(7, 239, 0), 5);
        due.met(y, "both(7, 0)", y.both(7, 0), 0);
        y.tell(7, 239, 0, 0);
        due.met(y, "told(7, 239, 0)", y.told(7, 239, 0), 0);
        due.met(y, "both(7, 0)", y.both(7, 0), 1);
    }

    private static void numberOfBoth() {
        due.says("NUMBER of both: 10 times GROUPS and SPOTS.");
        SpotRows x = Due.withEyes(1);
        int[][] told = {{0, 0, 0}, {0, 1, 1}, {0, 200, 200}, {1, 1, 11}, {20, 20, 220}, {20, 200, 400}};
        for (int[] one : told) {
            x.tell(0, 239, one[0], one[1]);
            due.met(x, "GROUPS", x.told(0, 239, 0), one[0]);
            due.met(x, "SPOTS", x.told(0, 239, 1), one[1]);
            due.met(x, "NUMBER", x.told(0, 239, 2), one[2]);
        }
    }

    private static void bothOfTwo() {
        due.says("BOTH of two EYES are the DAYS of which both TELL.");
        SpotRows x = Due.withEyes(3);
        due.met(x, "of none", x.both(0, 1), 0);
        x.tell(0, 0, 1, 1);
        due.met(x, "one TELLS", x.both(0, 1), 0);
        x.tell(1, 239, 1, 1);
        due.met(x, "each of another DAY", x.both(0, 1), 0);
        x.tell(1, 0, 1, 1);
        due.met(x, "DAY 0", x.both(0, 1), 1);
        x.tell(0, 239, 1, 1);
        due.met(x, "DAYS 0 and 239", x.both(1, 0), 2);
        x.unsay(1, 239);
        due.met(x, "DAY 0 again", x.both(1, 0), 1);
        x.unsay(0, 0);
        due.met(x, "none again", x.both(1, 0), 0);
        SpotRows y = Due.withEyes(2);
        y.tray(0, 3, 60);
        for (int day = 0; day < 240; day += 60) {
            y.book(0, day, 0, 60);
            y.book(1, day, 0, 60);
        }
        due.met(y, "all DAYS", y.both(0, 1), 240);
    }

    private static void factorIsRoundedDown() {
        due.says("the other one's NUMBERS together times 1,000 by this one's together, rounded down");
        SpotRows x = Due.withEasyEyes(2);
        int[][] sums = {{3, 2, 666}, {3, 3, 1000}, {3, 1, 333}, {200, 199, 995}, {199, 200, 1005},
            {200, 200, 1000}, {7, 6, 857}, {7, 7, 1000}, {7, 8, 1142}};
        for (int[] one : sums) {
            number(x, 0, 0, one[0]);
            number(x, 1, 0, one[1]);
            due.met(x, one[1] + " by " + one[0], x.factor(0, 1), one[2]);
        }
        SpotRows y = Due.withEasyEyes(2);
        link(y, 0, 2, sum(0, 5), sum(1, 3));
        due.met(y, "by sums, not by each DAY", y.factor(0, 1), 600);
    }

    private static void leastAtFirst() {
        due.says("if BOTH are LEAST (10 at first) or more");
        SpotRows x = Due.withEyes(2);
        for (int day = 0; day < 10; day++) {
            due.lacks(x, "factor of " + day + " DAYS", x.factor(0, 1), 6);
            number(x, 0, day, 5);
            number(x, 1, day, 5);
        }
        due.met(x, "factor of 10 DAYS", x.factor(0, 1), 1000);
        number(x, 0, 10, 5);
        number(x, 1, 10, 5);
        due.met(x, "factor of 11 DAYS", x.factor(0, 1), 1000);
        x.unsay(0, 3);
        x.unsay(1, 4);
        due.lacks(x, "factor of 9 DAYS", x.factor(1, 0), 6);
    }

    private static void leastOfRules() {
        due.says("if BOTH are LEAST (10 at first) or more");
        SpotRows x = Due.withEyes(2);
        for (int many = 1; many <= 101; many++) {
            number(x, 0, 2 * many, 1);
            number(x, 1, 2 * many, 1);
            int least = Math.min(many, 100);
            x.rules(least, 1);
            due.is("LEAST " + least + ", DAYS " + many, x.factor(0, 1), 1000);
            if (many < 100 && many % 9 == 0) {
                x.rules(many + 1, 1);
                due.lacks(x, "LEAST " + (many + 1) + ", DAYS " + many, x.factor(0, 1), 6);
            }
        }
    }

    private static void sumsAboveNought() {
        due.says("both sums are above 0");
        SpotRows x = Due.withEasyEyes(2);
        link(x, 0, 2, sum(0, 0), sum(1, 0));
        due.lacks(x, "0 by 0", x.factor(0, 1), 6);
        link(x, 0, 2, sum(0, 0), sum(1, 1));
        due.lacks(x, "1 by 0", x.factor(0, 1), 6);
        due.lacks(x, "0 by 1", x.factor(1, 0), 6);
        link(x, 0, 2, sum(0, 1), sum(1, 1));
        due.met(x, "1 by 1", x.factor(0, 1), 1000);
        number(x, 0, 5, 100);
        due.met(x, "of BOTH alone", x.factor(0, 1), 1000);
    }

    /** All DAYS are needed: there 100,001 comes of 95,901 by 959, and 9 of 959 by 95,901. */
    private static void factorFrom10To100000() {
        due.says("it is from 10 to 100,000");
        SpotRows x = Due.withEasyEyes(2);
        bookAllDays(x, 0, 20200);
        bookAllDays(x, 1, 4);
        number(x, 1, 239, 3);
        number(x, 0, 239, 300);
        due.met(x, "95,900 by 959", x.factor(1, 0), 100000);
        due.met(x, "959 by 95,900", x.factor(0, 1), 10);
        due.met(x, "it is a CHAIN", x.weight(1), 100000);
        number(x, 0, 239, 301);
        due.lacks(x, "95,901 by 959", x.factor(1, 0), 6);
        due.lacks(x, "959 by 95,901", x.factor(0, 1), 6);
        due.lacks(x, "it is no CHAIN", x.weight(1), 6);
        number(x, 0, 239, 299);
        due.met(x, "95,899 by 959", x.factor(1, 0), 99998);
        due.met(x, "959 by 95,899", x.factor(0, 1), 10);
    }

    private static void bookAllDays(SpotRows x, int eye, long number) {
        x.tray(0, 3, 60);
        x.write(0, 0, number);
        for (int many = 1; many < 32; many = many * 2) {
            x.pour(0, 0, 0, many, many);
        }
        x.pour(0, 0, 0, 32, 28);
        for (int day = 0; day < 240; day += 60) {
            due.met(x, "book from " + day, x.book(eye, day, 0, 60));
        }
    }

    private static void middleOfNumbersAboveNought() {
        due.says("of the DAYS of BOTH with a NUMBER of this one above 0");
        SpotRows x = Due.withEasyEyes(2);
        due.lacks(x, "no DAY", x.middle(0, 1), 6);
        number(x, 0, 0, 0);
        number(x, 1, 0, 3);
        due.lacks(x, "a DAY with 0", x.middle(0, 1), 6);
        due.tells(x, "0 by 3", x.middle(1, 0), 0, 1);
        number(x, 0, 0, 1);
        due.tells(x, "a DAY with 1", x.middle(0, 1), 3, 1);
        number(x, 0, 1, 1);
        due.tells(x, "a DAY of one alone", x.middle(0, 1), 3, 1);
        number(x, 0, 2, 0);
        number(x, 1, 2, 0);
        number(x, 0, 3, 0);
        number(x, 1, 3, 0);
        due.tells(x, "DAYS with 0 beside it", x.middle(0, 1), 3, 1);
    }

    private static void middleOfEvenCounts() {
        due.says("by size, the middle one (of an even count the lower of the two)");
        SpotRows x = Due.withEasyEyes(2);
        int[] middles = {100, 1, 2, 2, 3, 3, 4};
        int[] told = {100, 1, 2, 9, 3, 8, 4};
        for (int many = 1; many <= told.length; many++) {
            number(x, 0, 10 * many, 1);
            number(x, 1, 10 * many, told[many - 1]);
            due.tells(x, "of " + many, x.middle(0, 1), middles[many - 1], 1);
        }
    }

    private static void middleBySize() {
        due.says("by size, the middle one (of an even count the lower of the two)");
        SpotRows x = Due.withEasyEyes(2);
        int[][] told = {{400, 399}, {399, 398}, {398, 397}};
        for (int day = 0; day < 3; day++) {
            number(x, 0, day, told[day][0]);
            number(x, 1, day, told[day][1]);
        }
        due.tells(x, "the closest ones", x.middle(0, 1), 398, 399);
        due.tells(x, "and back", x.middle(1, 0), 399, 398);
        number(x, 0, 3, 200);
        number(x, 1, 3, 199);
        due.tells(x, "the lower of two", x.middle(0, 1), 397, 398);
        number(x, 0, 1, 400);
        number(x, 1, 1, 398);
        due.tells(x, "two alike", x.middle(0, 1), 199, 200);
    }

    private static void stepsNeverFall() {
        due.says("a FRACTION, never less for more GROUPS");
        SpotRows x = Due.withEasyEyes(2);
        groups(x, 0, 4, 7);
        groups(x, 1, 5, 8);
        due.tells(x, "rises: 4", x.step(0, 1, 4), 7, 1);
        due.tells(x, "rises: 5", x.step(0, 1, 5), 8, 1);
        groups(x, 1, 5, 7);
        due.tells(x, "is like: 4", x.step(0, 1, 4), 7, 1);
        due.tells(x, "is like: 5", x.step(0, 1, 5), 7, 1);
        groups(x, 1, 5, 6);
        due.tells(x, "falls: 4", x.step(0, 1, 4), 13, 2);
        due.tells(x, "falls: 5", x.step(0, 1, 5), 13, 2);
        groups(x, 2, 3, 6);
        due.tells(x, "rises to what fell: 3", x.step(0, 1, 3), 6, 1);
        due.tells(x, "rises to what fell: 4", x.step(0, 1, 4), 13, 2);
        groups(x, 2, 3, 7);
        due.tells(x, "falls to what fell: 3", x.step(0, 1, 3), 20, 3);
        due.tells(x, "falls to what fell: 5", x.step(0, 1, 5), 20, 3);
    }

    private static void stepNotAbove() {
        due.says("that of the greatest number not above it among these; none if there is none");
        SpotRows x = Due.withEasyEyes(2);
        groups(x, 0, 20, 3);
        due.lacks(x, "19 below 20", x.step(0, 1, 19), 6);
        due.tells(x, "20", x.step(0, 1, 20), 3, 1);
        groups(x, 1, 10, 2);
        due.lacks(x, "9 below 10", x.step(0, 1, 9), 6);
        due.tells(x, "10", x.step(0, 1, 10), 2, 1);
        due.tells(x, "19", x.step(0, 1, 19), 2, 1);
        due.tells(x, "20", x.step(0, 1, 20), 3, 1);
        groups(x, 2, 0, 1);
        due.tells(x, "0", x.step(0, 1, 0), 1, 1);
        due.tells(x, "9", x.step(0, 1, 9), 1, 1);
        x.tell(0, 3, 5, 5);
        due.tells(x, "what one alone TELLS of", x.step(0, 1, 5), 1, 1);
        x.unsay(1, 2);
        due.lacks(x, "none again", x.step(0, 1, 9), 6);
    }

    private static void holdsChain(SpotRows x, int... eyes) {
        for (int k = 0; k < eyes.length; k++) {
            due.met(x, "chain(" + eyes[0] + ", " + k + ")", x.chain(eyes[0], k), eyes[k]);
        }
        due.lacks(x, "beyond the CHAIN of " + eyes[0], x.chain(eyes[0], eyes.length), 6);
    }

    private static void fewestEyes() {
        due.says("of these that with the fewest");
        SpotRows x = Due.withEasyEyes(4);
        int day = link(x, 0, 9, sum(3, 9), sum(2, 9));
        day = link(x, day, 9, sum(2, 9), sum(1, 9));
        day = link(x, day, 9, sum(1, 9), sum(0, 9));
        holdsChain(x, 3, 2, 1, 0);
        day = link(x, day, 1, sum(3, 1), sum(1, 1));
        holdsChain(x, 3, 1, 0);
        link(x, day, 1, sum(3, 101), sum(0, 1));
        holdsChain(x, 3, 1, 0);
        due.lacks(x, "a FACTOR of 9 is none", x.factor(3, 0), 6);
        number(x, 3, day, 100);
        due.met(x, "a FACTOR of 10 is one", x.factor(3, 0), 10);
        holdsChain(x, 3, 0);
    }

    private static void greatestLeastBoth() {
        due.says("of several that of which the least BOTH on the way is greatest");
        SpotRows x = Due.withEasyEyes(4);
        int day = link(x, 0, 3, sum(3, 9), sum(1, 9));
        day = link(x, day, 9, sum(1, 9), sum(0, 9));
        day = link(x, day, 9, sum(3, 9), sum(2, 9));
        day = link(x, day, 2, sum(2, 9), sum(0, 9));
        holdsChain(x, 3, 1, 0);
        day = link(x, day, 1, sum(2, 3), sum(0, 3));
        holdsChain(x, 3, 1, 0);
        day = link(x, day, 1, sum(2, 3), sum(0, 3));
        holdsChain(x, 3, 2, 0);
        day = link(x, day, 1, sum(3, 3), sum(1, 3));
        holdsChain(x, 3, 1, 0);
        link(x, day, 1, sum(2, 3), sum(0, 3));
        holdsChain(x, 3, 2, 0);
    }

    private static void firstByTheNumbers() {
        due.says("of several the first by the numbers of the EYES");
        SpotRows x = Due.withEasyEyes(6);
        int day = link(x, 0, 1, sum(5, 1), sum(2, 1));
        day = link(x, day, 1, sum(2, 1), sum(3, 1));
        day = link(x, day, 1, sum(3, 1), sum(0, 1));
        holdsChain(x, 5, 2, 3, 0);
        day = link(x, day, 1, sum(5, 1), sum(1, 1));
        day = link(x, day, 1, sum(1, 1), sum(4, 1));
        holdsChain(x, 5, 2, 3, 0);
        day = link(x, day, 1, sum(4, 1), sum(0, 1));
        holdsChain(x, 5, 1, 4, 0);
        link(x, day, 1, sum(1, 1), sum(3, 1));
        holdsChain(x, 5, 1, 3, 0);
    }

    private static void chainOfEyeNought() {
        due.says("from 0 on: the EYE itself; the last one is EYE 0");
        SpotRows x = Due.withEyes(2);
        holdsChain(x, 0);
        due.met(x, "weight(0)", x.weight(0), 1000);
        due.lacks(x, "chain(1, 0)", x.chain(1, 0), 6);
        x.rules(1, 1);
        link(x, 0, 1, sum(0, 2), sum(1, 4));
        holdsChain(x, 0);
        holdsChain(x, 1, 0);
        due.met(x, "weight(0)", x.weight(0), 1000);
        due.met(x, "weight(1)", x.weight(1), 500);
    }

    private static void weightIsRoundedDownEachTime() {
        due.says("1,000 at first, then each time that times the FACTOR by 1,000, rounded down");
        SpotRows x = Due.withEasyEyes(4);
        int day = link(x, 0, 1, sum(1, 200), sum(0, 199));
        day = link(x, day, 1, sum(2, 200), sum(1, 199));
        day = link(x, day, 1, sum(3, 200), sum(2, 199));
        due.met(x, "995", x.weight(1), 995);
        due.met(x, "990.025", x.weight(2), 990);
        due.met(x, "985.05, by 990", x.weight(3), 985);
        SpotRows y = Due.withEasyEyes(4);
        day = link(y, 0, 1, sum(1, 3), sum(0, 2));
        day = link(y, day, 1, sum(2, 3), sum(1, 2));
        day = link(y, day, 1, sum(3, 1), sum(2, 100));
        due.met(y, "666", y.weight(1), 666);
        due.met(y, "443.556", y.weight(2), 443);
        due.met(y, "44300, not 44355", y.weight(3), 44300);
    }

    private static void weightAtMostAMillion() {
        due.says("1,000,000 at most (EYE 0: 1,000)");
        SpotRows x = Due.withEasyEyes(5);
        int day = link(x, 0, 1, sum(1, 1), sum(0, 100));
        int far = day;
        day = link(x, far, 25, sum(2, 1000), sum(1, 9999));
        due.met(x, "100,000", x.weight(1), 100000);
        due.met(x, "factor 9,999", x.factor(2, 1), 9999);
        due.met(x, "999,900", x.weight(2), 999900);
        link(x, far, 25, sum(2, 1000), sum(1, 10000));
        due.met(x, "1,000,000", x.weight(2), 1000000);
        link(x, far, 25, sum(2, 999), sum(1, 10000));
        due.met(x, "factor 10,010", x.factor(2, 1), 10010);
        due.met(x, "1,001,000 is too many", x.weight(2), 1000000);
        link(x, far, 25, sum(2, 100), sum(1, 10000));
        due.met(x, "10,000,000 is too many", x.weight(2), 1000000);
        day = link(x, day, 1, sum(3, 100), sum(2, 1));
        due.met(x, "from 1,000,000 on", x.weight(3), 10000);
        link(x, day, 1, sum(4, 100), sum(3, 1));
        due.met(x, "and on", x.weight(4), 100);
    }

    private static void lostEyes() {
        due.says("An EYE without a CHAIN is LOST.");
        SpotRows x = Due.withEasyEyes(3);
        due.lacks(x, "weight(1)", x.weight(1), 6);
        int day = link(x, 0, 1, sum(2, 1), sum(1, 1));
        due.lacks(x, "weight(1) with another LOST one", x.weight(1), 6);
        due.lacks(x, "weight(2) with another LOST one", x.weight(2), 6);
        day = link(x, day, 1, sum(1, 1), sum(0, 1));
        due.met(x, "weight(1)", x.weight(1), 1000);
        due.met(x, "weight(2)", x.weight(2), 1000);
        x.unsay(0, day - 1);
        due.lacks(x, "weight(2) without 0", x.weight(2), 6);
        due.met(x, "weight(0)", x.weight(0), 1000);
    }

    private static void loopIsRoundedDown() {
        due.says("times that of b to c, times that of c to a, by a million, rounded down");
        SpotRows x = Due.withEasyEyes(3);
        int day = link(x, 0, 5, sum(0, 1000), sum(1, 1001));
        int next = link(x, day, 5, sum(1, 1000), sum(2, 999));
        link(x, next, 5, sum(2, 1000), sum(0, 1000));
        due.met(x, "1,001 times 999", x.loop(0, 1, 2), 999);
        due.met(x, "from b on", x.loop(1, 2, 0), 999);
        link(x, day, 5, sum(1, 1000), sum(2, 1000));
        due.met(x, "1,001 times 1,000", x.loop(0, 1, 2), 1001);
        due.met(x, "back: 999 times 1,000", x.loop(2, 1, 0), 999);
        link(x, 0, 5, sum(0, 1000), sum(1, 10));
        link(x, day, 5, sum(1, 1000), sum(2, 1000));
        link(x, next, 5, sum(2, 1000), sum(0, 10));
        due.met(x, "10 times 10 is a tenth", x.loop(0, 1, 2), 0);
        link(x, next, 5, sum(2, 1000), sum(0, 100));
        due.met(x, "10 times 100 is one", x.loop(0, 1, 2), 1);
        link(x, next, 5, sum(2, 1000), sum(0, 99));
        due.met(x, "10 times 99 is less", x.loop(0, 1, 2), 0);
    }

    private static void fractionsWithoutACommonDivisor() {
        due.says("FRACTIONS are told by top() and bottom() without a common divisor; 0 is 0 by 1.");
        SpotRows x = Due.withEasyEyes(1);
        bookAllDays(x, 0, 1001);
        due.tells(x, "240 of 240", x.active(0, 0, 239), 1, 1);
        x.tell(0, 239, 0, 1);
        due.tells(x, "239 of 240", x.active(0, 0, 239), 239, 240);
        x.tell(0, 238, 0, 1);
        due.tells(x, "238 of 240", x.active(0, 0, 239), 119, 120);
        due.tells(x, "1 of 3", x.active(0, 237, 239), 1, 3);
        due.tells(x, "2 of 4", x.active(0, 236, 239), 1, 2);
        due.tells(x, "0 of 2", x.active(0, 238, 239), 0, 1);
        bookAllDays(x, 0, 0);
        due.tells(x, "0 of 240", x.active(0, 0, 239), 0, 1);
    }
}
