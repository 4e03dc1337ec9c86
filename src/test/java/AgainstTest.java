/** Promises 16 to 24: both, factor, middle, step, blind, active, chain, weight, loop. */
public final class AgainstTest {
    private static final Due due = new Due();

    public static void main(String[] args) {
        boths();
        wrongPairs();
        factors();
        factorsFollowTheTellings();
        daysEndAt239();
        middles();
        middleOfAllDays();
        steps();
        stepsPoolFarBack();
        stepsOfAllGroups();
        blinds();
        actives();
        chains();
        widestChain();
        chainOfAnotherThanTheNext();
        longestChain();
        weights();
        loops();
        due.end("AgainstTest");
    }

    /** From a day on, two eyes tell of the same days; numbers up to 200. */
    private static int link(SpotRows x, int from, int a, int b, int[] many) {
        for (int k = 0; k < many[0]; k++) {
            x.tell(a, from + k, 0, many[1]);
            x.tell(b, from + k, 0, many[2]);
        }
        return from + many[0];
    }

    private static int[] of(int days, int numberA, int numberB) {
        return new int[] {days, numberA, numberB};
    }

    private static void boths() {
        due.says("How many DAYS BOTH are (1: like ones, too).");
        SpotRows x = Due.withEasyEyes(3);
        due.met(x, "none", x.both(0, 1), 0);
        x.tell(0, 0, 0, 0);
        x.tell(1, 0, 0, 0);
        x.tell(0, 1, 1, 1);
        x.tell(1, 2, 1, 1);
        x.tell(0, 239, 1, 1);
        x.tell(1, 239, 1, 1);
        x.tell(2, 1, 1, 1);
        due.met(x, "both", x.both(0, 1), 2);
        due.met(x, "back", x.both(1, 0), 2);
        due.met(x, "of another", x.both(0, 2), 1);
        due.met(x, "of another two", x.both(2, 1), 0);
        x.unsay(0, 239);
        due.met(x, "less", x.both(1, 0), 1);
    }

    private static void wrongPairs() {
        due.says("1: like ones, too");
        SpotRows x = Due.withEasyEyes(2);
        x.tell(0, 0, 1, 1);
        x.tell(1, 0, 1, 1);
        int[][] pairs = {{0, 0}, {1, 1}, {-1, 0}, {0, -1}, {2, 0}, {0, 2}, {7, 7}};
        for (int[] p : pairs) {
            due.lacks(x, "both", x.both(p[0], p[1]), 1);
            due.lacks(x, "factor", x.factor(p[0], p[1]), 1);
            due.lacks(x, "middle", x.middle(p[0], p[1]), 1);
            due.lacks(x, "step", x.step(p[0], p[1], 1), 1);
            due.lacks(x, "blind", x.blind(p[0], p[1]), 1);
        }
        due.lacks(x, "step of -1", x.step(0, 1, -1), 1);
        due.lacks(x, "step of 21", x.step(0, 1, 21), 1);
        due.is("top as it was", x.top(), 0);
    }

    private static void factors() {
        due.says("FACTOR of a to b (1: like ones, too; 6).");
        SpotRows x = Due.withEasyEyes(8);
        int day = link(x, 0, 0, 1, of(1, 100, 1));
        day = link(x, day, 0, 2, of(1, 101, 1));
        day = link(x, day, 0, 3, of(1, 3, 2));
        day = link(x, day, 0, 4, of(1, 0, 5));
        day = link(x, day, 0, 5, of(3, 7, 7));
        due.met(x, "the least one", x.factor(0, 1), 10);
        due.met(x, "the greatest one", x.factor(1, 0), 100000);
        due.lacks(x, "below the least", x.factor(0, 2), 6);
        due.lacks(x, "above the greatest", x.factor(2, 0), 6);
        due.met(x, "rounded down", x.factor(0, 3), 666);
        due.met(x, "its other way", x.factor(3, 0), 1500);
        due.lacks(x, "own sum is 0", x.factor(0, 4), 6);
        due.lacks(x, "the other sum is 0", x.factor(4, 0), 6);
        due.lacks(x, "no days", x.factor(0, 6), 6);
        x.rules(3, 1);
        due.met(x, "as many as LEAST", x.factor(0, 5), 1000);
        due.lacks(x, "fewer than LEAST", x.factor(0, 3), 6);
        x.rules(4, 1);
        due.lacks(x, "one fewer than LEAST", x.factor(0, 5), 6);
    }

    /** Sums of pairs follow what is told anew, unsaid, or booked over. */
    private static void factorsFollowTheTellings() {
        due.says("FACTOR of a to b (1: like ones, too; 6).");
        SpotRows x = Due.withEasyEyes(3);
        x.tell(0, 0, 1, 10);
        x.tell(1, 0, 1, 10);
        x.tell(0, 1, 2, 10);
        due.met(x, "factor", x.factor(1, 0), 1000);
        x.tell(0, 0, 2, 20);
        due.met(x, "told anew", x.factor(1, 0), 2000);
        x.tell(1, 1, 0, 10);
        due.met(x, "one day more", x.factor(1, 0), 2333);
        x.unsay(0, 0);
        due.met(x, "unsaid", x.factor(1, 0), 3000);
        x.tray(0, 1, 2);
        x.write(0, 0, 1010);
        x.write(0, 1, -1);
        due.met(x, "book", x.book(0, 0, 0, 2));
        due.met(x, "booked over", x.factor(1, 0), 1000);
        due.met(x, "booked over", x.both(0, 1), 1);
    }

    /** The next eye's DAY 0 is not this one's DAY 240. */
    private static void daysEndAt239() {
        due.says("DAYS 0 to 239");
        SpotRows x = Due.withEasyEyes(3);
        x.tell(0, 239, 1, 5);
        x.tell(1, 239, 1, 5);
        x.tell(1, 0, 1, 3);
        x.tell(2, 0, 0, 3);
        due.met(x, "both", x.both(0, 1), 1);
        due.tells(x, "middle", x.middle(0, 1), 1, 1);
        due.tells(x, "step", x.step(0, 1, 20), 1, 1);
        x.tell(0, 239, 0, 5);
        x.tell(1, 0, 0, 3);
        x.tell(2, 0, 3, 3);
        due.met(x, "blind", x.blind(0, 1), 1);
        due.met(x, "days", x.days(0), 1);
    }

    private static void middles() {
        due.says("The FRACTION is MIDDLE of a to b: whether it is above 0, 1 or 0");
        SpotRows x = Due.withEasyEyes(3);
        due.lacks(x, "no days", x.middle(0, 1), 6);
        x.tell(0, 0, 0, 0);
        x.tell(1, 0, 0, 9);
        due.lacks(x, "no number above 0", x.middle(0, 1), 6);
        due.tells(x, "0 by 9", x.middle(1, 0), 0, 1);
        x.tell(2, 0, 0, 1);
        due.tells(x, "9 by 1", x.middle(2, 1), 9, 1);
        x.unsay(2, 0);
        link(x, 1, 0, 1, of(1, 6, 4));
        due.tells(x, "one", x.middle(0, 1), 2, 3);
        due.tells(x, "lower of two, 0", x.middle(1, 0), 0, 1);
        link(x, 2, 0, 1, of(1, 10, 1));
        due.tells(x, "lower of two", x.middle(0, 1), 1, 10);
        link(x, 3, 0, 1, of(1, 100, 200));
        due.tells(x, "middle of three", x.middle(0, 1), 2, 3);
        link(x, 4, 0, 1, of(1, 200, 133));
        due.tells(x, "lower middle of four", x.middle(0, 1), 133, 200);
        link(x, 5, 0, 1, of(1, 3, 2));
        due.tells(x, "middle of five", x.middle(0, 1), 2, 3);
        x.rules(100, 1);
        due.tells(x, "LEAST is not asked", x.middle(0, 1), 2, 3);
        x.tell(0, 200, 3, 3);
        x.tell(2, 200, 1, 4);
        due.tells(x, "by NUMBERS", x.middle(0, 2), 14, 33);
    }

    private static void middleOfAllDays() {
        due.says("The FRACTION is MIDDLE of a to b: whether it is above 0, 1 or 0");
        SpotRows x = Due.withEasyEyes(2);
        for (int day = 0; day < 240; day++) {
            x.tell(0, day, 0, 200);
            x.tell(1, day, 0, (day * 7) % 199 + 1);
        }
        int[] numbers = new int[240];
        for (int day = 0; day < 240; day++) {
            numbers[day] = (day * 7) % 199 + 1;
        }
        java.util.Arrays.sort(numbers);
        int divisor = java.math.BigInteger.valueOf(numbers[119])
            .gcd(java.math.BigInteger.valueOf(200)).intValue();
        due.tells(x, "middle", x.middle(0, 1), numbers[119] / divisor, 200 / divisor);
    }

    private static void steps() {
        due.says("The FRACTION is the STEP of a number of GROUPS (0 to 20) of a to b, as middle()");
        SpotRows x = Due.withEasyEyes(3);
        due.lacks(x, "no days", x.step(0, 1, 20), 6);
        groups(x, 0, 3, 5);
        groups(x, 1, 7, 9);
        groups(x, 2, 7, 6);
        groups(x, 3, 20, 20);
        due.lacks(x, "below the least", x.step(0, 1, 2), 6);
        due.tells(x, "the least", x.step(0, 1, 3), 5, 1);
        due.tells(x, "between", x.step(0, 1, 6), 5, 1);
        due.tells(x, "a mean", x.step(0, 1, 7), 15, 2);
        due.tells(x, "between", x.step(0, 1, 19), 15, 2);
        due.tells(x, "the greatest", x.step(0, 1, 20), 20, 1);
        groups(x, 4, 0, 0);
        due.tells(x, "0", x.step(0, 1, 0), 0, 1);
        due.tells(x, "above 0", x.step(0, 1, 2), 0, 1);
        x.rules(100, 1);
        due.tells(x, "LEAST is not asked", x.step(0, 1, 3), 5, 1);
        x.tell(2, 3, 1, 1);
        due.tells(x, "of another", x.step(0, 2, 20), 1, 1);
        due.lacks(x, "of another below", x.step(0, 2, 19), 6);
    }

    private static void groups(SpotRows x, int day, int a, int b) {
        x.tell(0, day, a, 50);
        x.tell(1, day, b, 50);
    }

    private static void stepsPoolFarBack() {
        due.says("with which the squares of what the other one's GROUPS on these DAYS "
            + "are away from it together are least");
        SpotRows x = Due.withEasyEyes(2);
        int[][] days = {{1, 4}, {2, 6}, {3, 5}, {4, 1}, {5, 9}, {6, 8}, {6, 8}, {8, 10}};
        for (int day = 0; day < days.length; day++) {
            groups(x, day, days[day][0], days[day][1]);
        }
        for (int groups = 1; groups <= 4; groups++) {
            due.tells(x, "step " + groups, x.step(0, 1, groups), 4, 1);
        }
        for (int groups = 5; groups <= 7; groups++) {
            due.tells(x, "step " + groups, x.step(0, 1, groups), 25, 3);
        }
        due.tells(x, "step 8", x.step(0, 1, 8), 10, 1);
        groups(x, 9, 9, 0);
        due.tells(x, "step 9", x.step(0, 1, 9), 7, 1);
        due.tells(x, "step 5", x.step(0, 1, 5), 7, 1);
        due.tells(x, "step 4", x.step(0, 1, 4), 4, 1);
    }

    private static void stepsOfAllGroups() {
        due.says("The FRACTION is the STEP of a number of GROUPS (0 to 20) of a to b, as middle()");
        SpotRows x = Due.withEasyEyes(2);
        for (int groups = 0; groups <= 20; groups++) {
            groups(x, groups, groups, groups);
        }
        for (int groups = 0; groups <= 20; groups++) {
            due.tells(x, "rising " + groups, x.step(0, 1, groups), groups, 1);
        }
        for (int groups = 0; groups <= 20; groups++) {
            groups(x, groups, groups, 20 - groups);
        }
        for (int groups = 0; groups <= 20; groups++) {
            due.tells(x, "falling " + groups, x.step(0, 1, groups), 10, 1);
        }
        SpotRows y = Due.withEasyEyes(2);
        groups(y, 0, 1, 2);
        groups(y, 1, 2, 1);
        due.tells(y, "two that fall", y.step(0, 1, 1), 3, 2);
        due.tells(y, "two that fall", y.step(0, 1, 2), 3, 2);
    }

    private static void blinds() {
        due.says("BLIND of a against b (1: like ones, too; 6: BOTH are none).");
        SpotRows x = Due.withEasyEyes(3);
        due.lacks(x, "no days", x.blind(0, 1), 6);
        groups(x, 0, 0, 20);
        due.met(x, "blind for all", x.blind(0, 1), 20);
        due.met(x, "sees all", x.blind(1, 0), 0);
        groups(x, 1, 1, 3);
        due.met(x, "one of two", x.blind(0, 1), 3);
        groups(x, 2, 0, 2);
        due.met(x, "one of three", x.blind(0, 1), 3);
        groups(x, 3, 5, 0);
        due.met(x, "two of four", x.blind(0, 1), 2);
        groups(x, 4, 5, 0);
        due.met(x, "three of five", x.blind(0, 1), 0);
        x.tell(0, 9, 9, 9);
        x.tell(1, 8, 9, 9);
        due.met(x, "other days are not asked", x.blind(0, 1), 0);
        due.met(x, "back", x.blind(1, 0), 0);
        x.rules(100, 1);
        due.met(x, "LEAST is not asked", x.blind(1, 0), 0);
    }

    private static void actives() {
        due.says("The FRACTION is ACTIVE, as middle() (1: from above to, too; 5).");
        SpotRows x = Due.withEasyEyes(2);
        x.tell(0, 0, 1, 1);
        x.tell(0, 1, 0, 9);
        x.tell(0, 2, 0, 0);
        x.tell(0, 239, 20, 20);
        due.tells(x, "all", x.active(0, 0, 239), 1, 2);
        due.tells(x, "three", x.active(0, 0, 238), 1, 3);
        due.tells(x, "spots without groups", x.active(0, 1, 2), 0, 1);
        due.tells(x, "the last day", x.active(0, 239, 239), 1, 1);
        due.tells(x, "from 2", x.active(0, 2, 239), 1, 2);
        due.lacks(x, "nothing told", x.active(0, 3, 238), 5);
        due.lacks(x, "another eye", x.active(1, 0, 239), 5);
        due.lacks(x, "from above to", x.active(0, 2, 1), 1);
        due.lacks(x, "from -1", x.active(0, -1, 1), 1);
        due.lacks(x, "to 240", x.active(0, 0, 240), 1);
        due.lacks(x, "from 240", x.active(0, 240, 240), 1);
        due.lacks(x, "to -1", x.active(0, -1, -1), 1);
        due.lacks(x, "eye -1", x.active(-1, 0, 1), 1);
        due.lacks(x, "eye 2", x.active(2, 0, 1), 1);
    }

    private static void holdsChain(SpotRows x, int... eyes) {
        for (int k = 0; k < eyes.length; k++) {
            due.met(x, "chain of " + eyes[0] + " at " + k, x.chain(eyes[0], k), eyes[k]);
        }
        due.lacks(x, "chain of " + eyes[0] + " beyond", x.chain(eyes[0], eyes.length), 6);
    }

    private static void chains() {
        due.says("The k-th EYE of a CHAIN");
        SpotRows x = Due.withEasyEyes(5);
        int day = link(x, 0, 1, 0, of(2, 1, 1));
        day = link(x, day, 2, 1, of(9, 1, 1));
        day = link(x, day, 3, 2, of(9, 1, 1));
        holdsChain(x, 0);
        holdsChain(x, 3, 2, 1, 0);
        due.lacks(x, "lost", x.chain(4, 0), 6);
        due.lacks(x, "lost weight", x.weight(4), 6);
        due.lacks(x, "below 0", x.chain(3, -1), 6);
        due.lacks(x, "far below 0", x.chain(4, Integer.MIN_VALUE), 6);
        due.lacks(x, "far beyond", x.chain(3, Integer.MAX_VALUE), 6);
        due.lacks(x, "eye -1", x.chain(-1, 0), 1);
        due.lacks(x, "eye 5", x.chain(5, 0), 1);
        due.lacks(x, "weight of eye -1", x.weight(-1), 1);
        due.lacks(x, "weight of eye 5", x.weight(5), 1);
        link(x, day, 3, 0, of(1, 1, 1));
        holdsChain(x, 3, 0);
        x.rules(2, 1);
        holdsChain(x, 3, 2, 1, 0);
        x.rules(3, 1);
        due.lacks(x, "lost by LEAST", x.chain(1, 0), 6);
        due.lacks(x, "lost behind it", x.chain(3, 0), 6);
        holdsChain(x, 0);
    }

    private static void widestChain() {
        due.says("of several that of which the least BOTH on the way is greatest");
        SpotRows x = Due.withEasyEyes(6);
        int day = link(x, 0, 1, 0, of(3, 1, 1));
        day = link(x, day, 2, 0, of(5, 1, 1));
        day = link(x, day, 3, 0, of(5, 1, 1));
        day = link(x, day, 4, 1, of(9, 1, 1));
        day = link(x, day, 4, 3, of(4, 1, 1));
        holdsChain(x, 4, 3, 0);
        day = link(x, day, 4, 2, of(4, 1, 1));
        holdsChain(x, 4, 2, 0);
        day = link(x, day, 1, 0, of(1, 1, 1));
        holdsChain(x, 4, 1, 0);
        day = link(x, day, 4, 3, of(1, 1, 1));
        holdsChain(x, 4, 3, 0);
    }

    private static void chainOfAnotherThanTheNext() {
        due.says("of several that of which the least BOTH on the way is greatest");
        SpotRows x = Due.withEasyEyes(6);
        int day = link(x, 0, 1, 0, of(3, 1, 2));
        day = link(x, day, 2, 0, of(5, 1, 5));
        day = link(x, day, 4, 1, of(3, 1, 1));
        day = link(x, day, 4, 2, of(5, 1, 1));
        day = link(x, day, 5, 4, of(2, 1, 1));
        holdsChain(x, 4, 2, 0);
        holdsChain(x, 5, 4, 1, 0);
        due.met(x, "weight of the next", x.weight(4), 5000);
        due.met(x, "weight by its own chain", x.weight(5), 2000);
        due.lacks(x, "eye 3 is lost", x.weight(3), 6);
    }

    private static void longestChain() {
        due.says("from it to EYE 0, none twice");
        SpotRows x = Due.withEasyEyes(8);
        int day = link(x, 0, 0, 7, of(1, 2, 1));
        for (int eye = 7; eye > 1; eye--) {
            day = link(x, day, eye, eye - 1, of(1, 1, 1));
        }
        holdsChain(x, 1, 2, 3, 4, 5, 6, 7, 0);
        due.met(x, "weight", x.weight(1), 2000);
    }

    private static void weights() {
        due.says("WEIGHT (1; 6: LOST).");
        SpotRows x = Due.withEasyEyes(8);
        int day = link(x, 0, 1, 0, of(1, 2, 200));
        day = link(x, day, 2, 1, of(1, 2, 200));
        day = link(x, day, 3, 2, of(1, 200, 2));
        day = link(x, day, 4, 0, of(1, 3, 1));
        day = link(x, day, 5, 4, of(1, 3, 1));
        day = link(x, day, 6, 5, of(1, 200, 2));
        day = link(x, day, 7, 6, of(1, 200, 2));
        due.met(x, "eye 0", x.weight(0), 1000);
        due.met(x, "the greatest factor", x.weight(1), 100000);
        due.met(x, "1,000,000 at most", x.weight(2), 1000000);
        due.met(x, "at most each time", x.weight(3), 10000);
        due.met(x, "rounded down", x.weight(4), 333);
        due.met(x, "rounded down twice", x.weight(5), 110);
        due.met(x, "a small one", x.weight(6), 1);
        due.met(x, "0 is not lost", x.weight(7), 0);
        due.met(x, "0 is not lost", x.chain(7, 0), 7);
    }

    private static void loops() {
        due.says("LOOP (1: like ones, too; 6: a FACTOR lacks).");
        SpotRows x = Due.withEasyEyes(5);
        int day = link(x, 0, 0, 1, of(1, 2, 200));
        day = link(x, day, 1, 2, of(1, 2, 200));
        day = link(x, day, 2, 0, of(1, 2, 200));
        due.met(x, "the greatest", x.loop(0, 1, 2), 1000000000);
        due.met(x, "turned", x.loop(1, 2, 0), 1000000000);
        due.met(x, "back", x.loop(2, 1, 0), 0);
        day = link(x, day, 3, 0, of(1, 3, 1));
        due.lacks(x, "the second factor lacks", x.loop(0, 1, 3), 6);
        due.lacks(x, "the first factor lacks", x.loop(1, 3, 0), 6);
        due.lacks(x, "the third factor lacks", x.loop(3, 0, 1), 6);
        day = link(x, day, 1, 3, of(1, 1, 1));
        due.met(x, "rounded down once", x.loop(0, 1, 3), 33300);
        int[][] wrong = {{0, 0, 1}, {0, 1, 0}, {1, 0, 0}, {-1, 0, 1}, {0, -1, 1}, {0, 1, -1},
            {5, 0, 1}, {0, 5, 1}, {0, 1, 5}, {1, 1, 1}};
        for (int[] w : wrong) {
            due.lacks(x, "wrong eyes", x.loop(w[0], w[1], w[2]), 1);
        }
    }
}
