/** An object's 512th call, of each kind, still answers as due. */
public final class LimitTest {
    private static final int MOST_CALLS = 512;
    private static final Due due = new Due();
    private static int calls;

    private interface Call {
        long on(SpotRows x);
    }

    public static void main(String[] args) {
        due.says("An object is used for at most 512 calls after it has been made");
        last("status", SpotRows::status, 0);
        last("top", SpotRows::top, 1);
        last("bottom", SpotRows::bottom, 2);
        last("tray", x -> x.tray(3, 3, 60) ? 1 : 0, 1);
        last("write", x -> x.write(0, 1, 9) ? 1 : 0, 1);
        last("read", x -> x.read(0, 0), 1001);
        last("pour", x -> x.pour(0, 0, 0, 1, 1) ? 1 : 0, 1);
        last("eye", SpotRows::eye, 3);
        last("tell", x -> x.tell(0, 239, 20, 200) ? 1 : 0, 1);
        last("unsay", x -> x.unsay(0, 0) ? 1 : 0, 1);
        last("book", x -> x.book(0, 239, 0, 1) ? 1 : 0, 1);
        last("told", x -> x.told(0, 0, 2), 20);
        last("days", x -> x.days(0), 4);
        last("rules", x -> x.rules(100, 10) ? 1 : 0, 1);
        last("both", x -> x.both(0, 1), 2);
        last("factor", x -> x.factor(1, 0), 2000);
        last("middle", x -> x.middle(1, 0), 1);
        last("step", x -> x.step(1, 0, 20), 1);
        last("blind", x -> x.blind(1, 0), 1);
        last("active", x -> x.active(0, 0, 239), 1);
        last("chain", x -> x.chain(2, 1), 1);
        last("weight", x -> x.weight(2), 4000);
        last("loop", x -> x.loop(0, 1, 2), SpotRows.NONE);
        last("day", x -> x.day(0), 20000);
        last("month", x -> x.month(0), 20000);
        last("smooth", x -> x.smooth(23, 7), 30000);
        last("turn", x -> x.turn(1, 1, 8, true), 23);
        last("change", x -> x.change(23, 1), 0);
        due.end("LimitTest");
    }

    private static void last(String name, Call call, long want) {
        due.is(name + " as call " + MOST_CALLS, call.on(afterAllButOne()), want);
    }

    private static SpotRows afterAllButOne() {
        SpotRows x = new SpotRows();
        calls = 0;
        made(x.eye() == 0);
        made(x.eye() == 1);
        made(x.eye() == 2);
        made(x.rules(1, 1));
        made(x.tray(0, 1, 2));
        made(x.write(0, 0, 1001));
        made(x.tell(0, 0, 1, 10));
        made(x.tell(1, 0, 0, 10));
        made(x.tell(1, 1, 0, 10));
        made(x.tell(0, 1, 1, 10));
        made(x.tell(1, 2, 0, 10));
        made(x.tell(2, 2, 0, 5));
        made(x.tell(0, 230, 1, 20));
        made(x.tell(0, 231, 0, 30));
        made(x.active(0, 230, 231) == 1);
        while (calls < MOST_CALLS - 1) {
            made(x.book(2, 2, 0, 1));
            made(x.tell(2, 2, 0, 5));
        }
        return x;
    }

    private static void made(boolean asDue) {
        calls++;
        due.yes("call " + calls, asDue);
    }
}
