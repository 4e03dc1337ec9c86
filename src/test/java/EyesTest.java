/** Promises 9 to 15: eye, tell, unsay, book, told, days, rules. */
public final class EyesTest {
    private static final Due due = new Due();

    public static void main(String[] args) {
        eyes();
        tells();
        unsays();
        books();
        bookAsksInOrder();
        bookNumbers();
        tolds();
        countsDays();
        rules();
        due.end("EyesTest");
    }

    private static void eyes() {
        due.says("An EYE more: its number (4).");
        SpotRows x = new SpotRows();
        for (int eye = 0; eye < 8; eye++) {
            due.lacks(x, "days of no eye", x.days(eye), 1);
            due.met(x, "eye", x.eye(), eye);
            due.met(x, "days of a new eye", x.days(eye), 0);
        }
        due.lacks(x, "eye", x.eye(), 4);
        due.lacks(x, "eye", x.eye(), 4);
    }

    private static void tells() {
        due.says("What an EYE TELLS of a DAY (1: also fewer SPOTS than GROUPS).");
        SpotRows x = Due.withEyes(2);
        due.met(x, "nought", x.tell(0, 0, 0, 0));
        due.met(x, "the most", x.tell(1, 239, 20, 200));
        due.met(x, "as many spots as groups", x.tell(0, 1, 20, 20));
        due.met(x, "spots without groups", x.tell(0, 2, 0, 200));
        due.met(x, "told", x.told(0, 0, 2), 0);
        due.met(x, "told", x.told(1, 239, 2), 400);
        due.met(x, "told", x.told(0, 1, 2), 220);
        due.met(x, "told", x.told(0, 2, 2), 200);
        due.lacks(x, "eye -1", x.tell(-1, 0, 1, 1), 1);
        due.lacks(x, "eye 2", x.tell(2, 0, 1, 1), 1);
        due.lacks(x, "day -1", x.tell(0, -1, 1, 1), 1);
        due.lacks(x, "day 240", x.tell(0, 240, 1, 1), 1);
        due.lacks(x, "groups -1", x.tell(0, 0, -1, 1), 1);
        due.lacks(x, "groups 21", x.tell(0, 0, 21, 21), 1);
        due.lacks(x, "spots -1", x.tell(0, 0, 0, -1), 1);
        due.lacks(x, "spots 201", x.tell(0, 0, 0, 201), 1);
        due.lacks(x, "fewer spots", x.tell(0, 0, 2, 1), 1);
        due.met(x, "told", x.told(0, 0, 2), 0);
        due.met(x, "told anew", x.tell(0, 0, 3, 5));
        due.met(x, "told", x.told(0, 0, 2), 35);
        due.met(x, "days", x.days(0), 3);
    }

    private static void unsays() {
        due.says("It TELLS nothing of a DAY (1; 5: it does so already).");
        SpotRows x = Due.withEyes(2);
        x.tell(0, 239, 0, 0);
        due.lacks(x, "what is not told", x.unsay(0, 0), 5);
        due.lacks(x, "what another one told", x.unsay(1, 239), 5);
        due.lacks(x, "eye -1", x.unsay(-1, 239), 1);
        due.lacks(x, "eye 2", x.unsay(2, 239), 1);
        due.lacks(x, "day -1", x.unsay(0, -1), 1);
        due.lacks(x, "day 240", x.unsay(0, 240), 1);
        due.met(x, "unsay", x.unsay(0, 239));
        due.lacks(x, "told", x.told(0, 239, 0), 5);
        due.met(x, "days", x.days(0), 0);
        due.lacks(x, "unsay again", x.unsay(0, 239), 5);
    }

    private static void books() {
        due.says("From a DAY on it TELLS by the first numbers of a TRAY");
        SpotRows x = Due.withEyes(1);
        x.tray(0, 3, 60);
        long[] numbers = {0, -1, 1001, 20200, 200, 20020};
        for (int place = 0; place < numbers.length; place++) {
            x.write(0, place, numbers[place]);
        }
        x.tell(0, 9, 7, 7);
        x.tell(0, 11, 7, 7);
        x.tell(0, 16, 7, 7);
        due.met(x, "book", x.book(0, 10, 0, 6));
        due.met(x, "the day ahead of it", x.told(0, 9, 2), 77);
        due.met(x, "0", x.told(0, 10, 2), 0);
        due.lacks(x, "-1", x.told(0, 11, 2), 5);
        due.met(x, "1001", x.told(0, 12, 2), 11);
        due.met(x, "20200", x.told(0, 13, 0), 20);
        due.met(x, "20200", x.told(0, 13, 1), 200);
        due.met(x, "200", x.told(0, 14, 1), 200);
        due.met(x, "20020", x.told(0, 15, 2), 220);
        due.met(x, "the day behind it", x.told(0, 16, 2), 77);
        due.met(x, "a book of 60 up to day 239", x.book(0, 180, 0, 60));
        due.met(x, "days", x.days(0), 7 + 59);
        due.met(x, "a book of one on day 239", x.book(0, 239, 0, 1));
        x.tray(3, 3, 1);
        due.met(x, "a book of the last tray", x.book(0, 50, 3, 1));
        x.tray(1, 0, 3);
        x.write(1, 0, 127);
        x.write(1, 1, -1);
        due.met(x, "a book of 8 bits", x.book(0, 100, 1, 3));
        due.met(x, "127", x.told(0, 100, 2), 127);
        due.lacks(x, "-1", x.told(0, 101, 2), 5);
        due.met(x, "a book keeps its tray", x.read(1, 0), 127);
    }

    private static void bookAsksInOrder() {
        due.says("1: also a DAY behind 239; 2; 3; 1: the numbers; asked in this order");
        SpotRows x = Due.withEyes(1);
        x.tray(0, 3, 3);
        x.write(0, 2, -2);
        due.lacks(x, "eye -1", x.book(-1, 0, 0, 1), 1);
        due.lacks(x, "eye 1", x.book(1, 0, 1, 1), 1);
        due.lacks(x, "day -1", x.book(0, -1, 1, 1), 1);
        due.lacks(x, "day 240", x.book(0, 240, 1, 1), 1);
        due.lacks(x, "tray -1", x.book(0, 0, -1, 1), 1);
        due.lacks(x, "tray 4", x.book(0, 0, 4, 1), 1);
        due.lacks(x, "many 0", x.book(0, 0, 1, 0), 1);
        due.lacks(x, "many 0 from another day", x.book(0, 5, 0, 0), 1);
        due.lacks(x, "many -1", x.book(0, 0, 1, -1), 1);
        due.lacks(x, "many 61", x.book(0, 0, 1, 61), 1);
        due.lacks(x, "the most", x.book(0, 239, 1, Integer.MAX_VALUE), 1);
        due.lacks(x, "up to day 240", x.book(0, 239, 1, 2), 1);
        due.lacks(x, "up to day 240 by 60", x.book(0, 181, 1, 60), 1);
        due.lacks(x, "a missing tray", x.book(0, 180, 1, 60), 2);
        due.lacks(x, "too few ahead of a wrong number", x.book(0, 0, 0, 4), 3);
        due.lacks(x, "a wrong number", x.book(0, 0, 0, 3), 1);
        due.met(x, "nothing is taken", x.days(0), 0);
        due.met(x, "the wrong number is not asked", x.book(0, 0, 0, 2));
        due.met(x, "two are taken", x.days(0), 2);
    }

    private static void bookNumbers() {
        due.says("1,000 times GROUPS and SPOTS, or -1: nothing");
        SpotRows x = Due.withEyes(1);
        x.tray(0, 3, 2);
        long[] wrong = {-2, -1000, 201, 999, 1000, 2001, 20019, 20201, 21021, 21200, 4294967295L,
            4294967296L + 1001, -4294967296L + 1001, Long.MAX_VALUE, Long.MIN_VALUE};
        for (long number : wrong) {
            x.write(0, 1, number);
            due.lacks(x, "book of " + number, x.book(0, 0, 0, 2), 1);
        }
        x.write(0, 1, 0);
        x.write(0, 0, -2);
        due.lacks(x, "the first number is wrong", x.book(0, 0, 0, 2), 1);
        due.met(x, "days", x.days(0), 0);
        x.write(0, 0, 0);
        for (int groups = 0; groups <= 20; groups++) {
            x.write(0, 1, 1000 * groups + groups);
            due.met(x, "book of " + groups, x.book(0, 0, 0, 2));
            x.write(0, 1, 1000 * groups + groups - 1);
            if (groups > 0) {
                due.lacks(x, "too few spots", x.book(0, 0, 0, 2), 1);
            }
            due.met(x, "told", x.told(0, 1, 2), 11 * groups);
        }
    }

    private static void tolds() {
        due.says("What 0: GROUPS, 1: SPOTS, 2: NUMBER (1, 5).");
        SpotRows x = Due.withEyes(2);
        x.tell(0, 3, 4, 50);
        due.met(x, "groups", x.told(0, 3, 0), 4);
        due.met(x, "spots", x.told(0, 3, 1), 50);
        due.met(x, "number", x.told(0, 3, 2), 90);
        due.lacks(x, "what -1", x.told(0, 3, -1), 1);
        due.lacks(x, "what 3", x.told(0, 4, 3), 1);
        due.lacks(x, "eye -1", x.told(-1, 3, 0), 1);
        due.lacks(x, "eye 2", x.told(2, 3, 0), 1);
        due.lacks(x, "day -1", x.told(0, -1, 0), 1);
        due.lacks(x, "day 240", x.told(0, 240, 0), 1);
        due.lacks(x, "another day", x.told(0, 4, 0), 5);
        due.lacks(x, "another eye", x.told(1, 3, 0), 5);
    }

    private static void countsDays() {
        due.says("How many DAYS an EYE TELLS of (1).");
        SpotRows x = Due.withEyes(2);
        for (int day = 0; day < 240; day++) {
            x.tell(1, day, 0, 0);
        }
        due.met(x, "all days", x.days(1), 240);
        due.met(x, "no days", x.days(0), 0);
        x.tell(1, 0, 1, 1);
        due.met(x, "a day told twice", x.days(1), 240);
        x.unsay(1, 239);
        due.met(x, "a day unsaid", x.days(1), 239);
        due.lacks(x, "eye -1", x.days(-1), 1);
        due.lacks(x, "eye 2", x.days(2), 1);
    }

    private static void rules() {
        due.says("LEAST (1 to 100) and ENOUGH (1).");
        SpotRows x = Due.withEyes(2);
        for (int day = 0; day < 100; day++) {
            x.tell(0, day, 1, 1);
            x.tell(1, day, 1, 1);
        }
        due.met(x, "the greatest", x.rules(100, 10));
        due.met(x, "factor of 100 days", x.factor(0, 1), 1000);
        due.met(x, "month of 10 days", x.month(0), 11000);
        x.unsay(0, 0);
        due.lacks(x, "factor of 99 days", x.factor(0, 1), 6);
        due.lacks(x, "month of 9 days, an eye lost", x.month(0), 5);
        due.met(x, "month of 10 days, an eye lost", x.month(1), 11000);
        due.lacks(x, "least 0", x.rules(0, 1), 1);
        due.lacks(x, "least 101", x.rules(101, 1), 1);
        due.lacks(x, "enough 0", x.rules(1, 0), 1);
        due.lacks(x, "enough 11", x.rules(1, 11), 1);
        due.lacks(x, "factor as it was", x.factor(0, 1), 6);
        due.met(x, "the least", x.rules(1, 1));
        due.met(x, "factor", x.factor(0, 1), 1000);
        x.tell(0, 239, 1, 1);
        due.met(x, "month of 1 day", x.month(23), 11000);
    }
}
