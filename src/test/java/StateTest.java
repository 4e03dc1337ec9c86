/** Promises 1 to 4: a new object, STATUS and the FRACTION; and that a refused call changes nothing. */
public final class StateTest {
    private static final Due due = new Due();

    public static void main(String[] args) {
        newObject();
        rulesAtFirst();
        statusIsOfTheLatestCall();
        fractionStaysUntilTheNext();
        refusedCallsChangeNothing();
        objectsAreApart();
        due.end("StateTest");
    }

    private static void newObject() {
        SpotRows x = new SpotRows();
        due.is("status", x.status(), 0);
        due.is("top", x.top(), 0);
        due.is("bottom", x.bottom(), 1);
        for (int tray = 0; tray < 4; tray++) {
            due.lacks(x, "read of a missing tray", x.read(tray, 0), 2);
        }
        due.lacks(x, "days without eyes", x.days(0), 1);
        due.lacks(x, "weight without eyes", x.weight(0), 1);
        due.lacks(x, "chain without eyes", x.chain(0, 0), 1);
        due.lacks(x, "day without eyes", x.day(239), 5);
        due.lacks(x, "month without eyes", x.month(23), 5);
        due.lacks(x, "smooth without eyes", x.smooth(23, 7), 5);
        due.lacks(x, "turn without eyes", x.turn(0, 7, 8, true), 6);
        due.lacks(x, "change without eyes", x.change(0, 1), 1);
        due.met(x, "eye", x.eye(), 0);
        due.is("NONE", SpotRows.NONE, -1);
    }

    /** LEAST is 10 and ENOUGH is 3, until rules() says another. */
    private static void rulesAtFirst() {
        SpotRows x = new SpotRows();
        x.eye();
        x.eye();
        for (int day = 0; day < 9; day++) {
            x.tell(0, day, 1, 1);
            x.tell(1, day, 1, 1);
        }
        due.lacks(x, "factor of 9 days", x.factor(0, 1), 6);
        x.tell(0, 11, 1, 1);
        x.tell(1, 11, 1, 1);
        due.met(x, "factor of 10 days", x.factor(0, 1), 1000);
        x.tell(0, 12, 1, 1);
        due.lacks(x, "month of 2 days", x.month(1), 5);
        x.tell(0, 13, 1, 1);
        due.met(x, "month of 3 days", x.month(1), 11000);
    }

    private static void statusIsOfTheLatestCall() {
        SpotRows x = new SpotRows();
        x.read(0, 0);
        x.top();
        x.bottom();
        due.is("status after top and bottom", x.status(), 2);
        due.is("status after status", x.status(), 2);
        x.eye();
        due.is("status after eye", x.status(), 0);
        x.day(240);
        due.is("status after day(240)", x.status(), 1);
        x.day(0);
        due.is("status after day(0)", x.status(), 5);
    }

    private static void fractionStaysUntilTheNext() {
        SpotRows x = new SpotRows();
        x.eye();
        x.eye();
        x.tell(0, 0, 0, 0);
        x.tell(0, 1, 2, 2);
        x.tell(0, 2, 2, 2);
        x.tell(0, 3, 0, 0);
        due.tells(x, "active", x.active(0, 0, 3), 1, 2);
        due.lacks(x, "middle", x.middle(0, 1), 6);
        due.lacks(x, "step", x.step(0, 1, 20), 6);
        due.lacks(x, "active", x.active(0, 4, 239), 5);
        due.lacks(x, "active", x.active(0, 2, 1), 1);
        due.met(x, "weight", x.weight(0), 1000);
        due.is("top", x.top(), 1);
        due.is("bottom", x.bottom(), 2);
        due.tells(x, "active of idle days", x.active(0, 0, 0), 0, 1);
        due.tells(x, "active of busy days", x.active(0, 1, 2), 1, 1);
    }

    private static void refusedCallsChangeNothing() {
        SpotRows x = new SpotRows();
        x.eye();
        x.eye();
        x.rules(1, 1);
        x.tell(0, 5, 2, 30);
        x.tell(1, 5, 1, 15);
        x.tray(0, 0, 3);
        x.write(0, 2, 7);
        long before = shape(x);
        x.tray(0, 4, 3);
        x.tray(0, -1, 3);
        x.tray(0, 0, 61);
        x.tray(0, 0, -1);
        x.write(0, 3, 9);
        x.write(0, -1, 9);
        x.pour(0, 2, 0, 0, 2);
        x.pour(0, 2, 0, -1, 1);
        x.tell(0, 5, 3, 2);
        x.tell(0, 5, 21, 30);
        x.tell(2, 5, 3, 3);
        x.unsay(0, 6);
        x.unsay(0, 240);
        x.book(0, 5, 0, 4);
        x.rules(0, 5);
        x.rules(5, 0);
        x.rules(5, 11);
        x.rules(101, 5);
        due.is("what stands", shape(x), before);
        for (int eye = 2; eye < 8; eye++) {
            x.eye();
        }
        due.lacks(x, "a ninth eye", x.eye(), 4);
        due.lacks(x, "days of a ninth eye", x.days(8), 1);
    }

    private static long shape(SpotRows x) {
        long shape = 0;
        for (int place = 0; place < 4; place++) {
            shape = shape * 31 + x.read(0, place);
        }
        for (int eye = 0; eye < 3; eye++) {
            shape = shape * 31 + x.days(eye);
            shape = shape * 31 + x.told(eye, 5, 2);
        }
        return (shape * 31 + x.factor(0, 1)) * 31 + x.month(0);
    }

    private static void objectsAreApart() {
        SpotRows x = new SpotRows();
        SpotRows y = new SpotRows();
        x.eye();
        x.tell(0, 0, 1, 1);
        x.active(0, 0, 0);
        x.tray(0, 0, 1);
        due.lacks(y, "days of another object's eye", y.days(0), 1);
        due.lacks(y, "read of another object's tray", y.read(0, 0), 2);
        due.is("top of another object", y.top(), 0);
    }
}
