/** Promises 1 to 4: a new object, STATUS and the FRACTION. */
public final class StateTest {
    private static final Due due = new Due();

    public static void main(String[] args) {
        newObject();
        rulesAtFirst();
        statusIsOfTheLatestCall();
        fractionStaysUntilTheNext();
        bottomIsAboveNought();
        objectsAreApart();
        due.end("StateTest");
    }

    private static void newObject() {
        due.says("No EYES; TRAYS are MISSING; the FRACTION 0 by 1; STATUS 0.");
        SpotRows x = new SpotRows();
        due.is("status", x.status(), 0);
        due.is("top", x.top(), 0);
        due.is("bottom", x.bottom(), 1);
        for (int tray = 0; tray < 4; tray++) {
            due.lacks(x, "read of a missing tray", x.read(tray, 0), 2);
        }
        due.lacks(x, "days without eyes", x.days(0), 1);
        due.lacks(x, "weight without eyes", x.weight(0), 1);
        due.lacks(x, "chain without eyes", x.chain(0, 0), 1);
        due.lacks(x, "day without eyes", x.day(239), 5);
        due.lacks(x, "month without eyes", x.month(23), 5);
        due.lacks(x, "smooth without eyes", x.smooth(23, 7), 5);
        due.lacks(x, "turn without eyes", x.turn(0, 7, 8, true), 6);
        due.lacks(x, "change without eyes", x.change(0, 1), 1);
        due.met(x, "eye", x.eye(), 0);
        due.is("NONE", SpotRows.NONE, -1);
    }

    /** LEAST is 10 and ENOUGH is 3, until rules() says another. */
    private static void rulesAtFirst() {
        due.says("there is one, if BOTH are LEAST (10 at first) or more");
        SpotRows x = new SpotRows();
        x.eye();
        x.eye();
        for (int day = 0; day < 9; day++) {
            x.tell(0, day, 1, 1);
            x.tell(1, day, 1, 1);
        }
        due.lacks(x, "factor of 9 days", x.factor(0, 1), 6);
        x.tell(0, 11, 1, 1);
        x.tell(1, 11, 1, 1);
        due.met(x, "factor of 10 days", x.factor(0, 1), 1000);
        x.tell(0, 12, 1, 1);
        due.lacks(x, "month of 2 days", x.month(1), 5);
        x.tell(0, 13, 1, 1);
        due.met(x, "month of 3 days", x.month(1), 11000);
    }

    private static void statusIsOfTheLatestCall() {
        due.says("STATUS of the latest call that has one.");
        SpotRows x = new SpotRows();
        x.read(0, 0);
        x.top();
        x.bottom();
        due.is("status after top and bottom", x.status(), 2);
        due.is("status after status", x.status(), 2);
        x.eye();
        due.is("status after eye", x.status(), 0);
        x.day(240);
        due.is("status after day(240)", x.status(), 1);
        x.day(0);
        due.is("status after day(0)", x.status(), 5);
    }

    private static void fractionStaysUntilTheNext() {
        due.says("The top of the FRACTION told latest.");
        SpotRows x = new SpotRows();
        x.eye();
        x.eye();
        x.tell(0, 0, 0, 0);
        x.tell(0, 1, 2, 2);
        x.tell(0, 2, 2, 2);
        x.tell(0, 3, 0, 0);
        due.tells(x, "active", x.active(0, 0, 3), 1, 2);
        due.lacks(x, "middle", x.middle(0, 1), 6);
        due.lacks(x, "step", x.step(0, 1, 20), 6);
        due.lacks(x, "active", x.active(0, 4, 239), 5);
        due.lacks(x, "active", x.active(0, 2, 1), 1);
        due.met(x, "weight", x.weight(0), 1000);
        due.is("top", x.top(), 1);
        due.is("bottom", x.bottom(), 2);
        due.tells(x, "active of idle days", x.active(0, 0, 0), 0, 1);
        due.tells(x, "active of busy days", x.active(0, 1, 2), 1, 1);
    }

    private static void bottomIsAboveNought() {
        due.says("Its bottom, above 0.");
        SpotRows x = Due.withEyes(2);
        due.is("bottom at first", x.bottom(), 1);
        due.lacks(x, "active of nothing", x.active(0, 0, 239), 5);
        due.is("bottom after a refusal", x.bottom(), 1);
        x.tell(0, 0, 0, 0);
        x.tell(1, 0, 0, 7);
        due.tells(x, "active of nought", x.active(0, 0, 239), 0, 1);
        due.tells(x, "middle of nought", x.middle(1, 0), 0, 1);
        due.tells(x, "step of nought", x.step(1, 0, 0), 0, 1);
        due.lacks(x, "middle by nought", x.middle(0, 1), 6);
        due.is("bottom after a refusal", x.bottom(), 1);
        x.tell(0, 0, 0, 1);
        due.tells(x, "middle by 1", x.middle(0, 1), 7, 1);
        due.tells(x, "1 by 7", x.middle(1, 0), 1, 7);
    }

    private static void objectsAreApart() {
        SpotRows x = new SpotRows();
        SpotRows y = new SpotRows();
        x.eye();
        x.tell(0, 0, 1, 1);
        x.active(0, 0, 0);
        x.tray(0, 0, 1);
        due.lacks(y, "days of another object's eye", y.days(0), 1);
        due.lacks(y, "read of another object's tray", y.read(0, 0), 2);
        due.is("top of another object", y.top(), 0);
    }
}
