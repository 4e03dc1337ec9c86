import java.util.Random;

/** Runs of up to 512 calls, drawn by fixed seeds, on SpotRows and on the Oracle: all answers are alike. */
public final class OracleTest {
    private static final int RUNS = 600;
    private static final int CALLS = 512;
    private static final Due due = new Due();

    private final Random random;
    private final SpotRows x = new SpotRows();
    private final Oracle oracle = new Oracle();
    private final int seed;
    private final int eyes;
    private final int days;
    private final boolean faint;
    private final boolean sparse;

    private OracleTest(int seed) {
        this.seed = seed;
        random = new Random(seed);
        eyes = 1 + random.nextInt(8);
        days = 10 + random.nextInt(231);
        faint = random.nextBoolean();
        sparse = random.nextBoolean();
    }

    public static void main(String[] args) {
        for (int seed = 0; seed < RUNS; seed++) {
            new OracleTest(seed).run();
        }
        due.end("OracleTest");
    }

    private void run() {
        int calls = 0;
        for (int eye = 0; eye < eyes; eye++) {
            check("eye", x.eye(), oracle.eye());
            calls++;
        }
        int least = 1 + random.nextInt(4);
        int enough = 1 + random.nextInt(3);
        check("rules", x.rules(least, enough), oracle.rules(least, enough));
        int fill = random.nextInt(300);
        while (calls < fill) {
            tell();
            calls++;
        }
        while (calls < CALLS / 2) {
            book();
            calls += 11;
        }
        while (calls < CALLS) {
            call();
            calls++;
        }
    }

    private void check(String call, long got, long want) {
        due.is("seed " + seed + ": " + call, got, want);
        due.is("seed " + seed + ": status after " + call, x.status(), oracle.status);
        due.is("seed " + seed + ": top after " + call, x.top(), oracle.top);
        due.is("seed " + seed + ": bottom after " + call, x.bottom(), oracle.bottom);
    }

    private void check(String call, boolean got, long want) {
        check(call, got ? 1 : 0, want);
    }

    /** Mostly 0 to most, now and then beyond the ends. */
    private int near(int most) {
        int luck = random.nextInt(60);
        if (luck == 0) {
            return -1;
        }
        if (luck == 1) {
            return most + 1;
        }
        if (luck == 2) {
            return random.nextInt();
        }
        return random.nextInt(most + 1);
    }

    private int anEye() {
        return near(eyes - 1);
    }

    private int aDay() {
        return near(days - 1);
    }

    /** In a sparse run an eye shares DAYS with few others, so that CHAINS are long. */
    private int aDayOf(int eye) {
        if (!sparse || eye < 0 || eye >= eyes) {
            return aDay();
        }
        int part = Math.max(1, days / 12);
        int turned = (eye * 3) % 8;
        return (turned * part + random.nextInt(2 * part)) % days;
    }

    private int aMonth() {
        return near(Math.min(23, (days - 1) / 10 + 1));
    }

    private int groups() {
        return random.nextInt(4) == 0 ? 0 : random.nextInt(random.nextInt(21) + 1);
    }

    private void tell() {
        int eye = anEye();
        int day = aDayOf(eye);
        int groups = groups();
        int spots = faint && eye % 2 == 1 ? groups : groups + near(180);
        check("tell", x.tell(eye, day, groups, spots), oracle.tell(eye, day, groups, spots));
    }

    private void book() {
        int tray = near(3);
        int sort = random.nextInt(4) == 0 ? near(3) : 1 + random.nextInt(3);
        int many = random.nextInt(sparse ? 12 : 61);
        check("tray", x.tray(tray, sort, many), oracle.tray(tray, sort, many));
        for (int k = 0; k < 8; k++) {
            write(tray, near(Math.max(0, Math.min(many, 59))));
        }
        int other = near(3);
        check("tray", x.tray(other, sort, many), oracle.tray(other, sort, many));
        pour(tray, other);
        int eye = anEye();
        int day = sparse ? random.nextInt(6) * 40 : aDay();
        int whole = random.nextInt(8) == 0 ? near(61) : many;
        check("book", x.book(eye, day, tray, whole), oracle.book(eye, day, tray, whole));
    }

    private void write(int tray, int place) {
        long number = number();
        check("write", x.write(tray, place, number), oracle.write(tray, place, number));
        check("read", x.read(tray, place), oracle.read(tray, place));
    }

    private long number() {
        int luck = random.nextInt(40);
        if (luck == 0) {
            return random.nextLong();
        }
        if (luck == 1) {
            return random.nextInt(22000) - 100;
        }
        if (luck < 10) {
            return -1;
        }
        int groups = groups();
        return 1000L * groups + groups + random.nextInt(201 - groups);
    }

    private void pour(int from, int to) {
        int place = random.nextInt(30);
        int at = random.nextInt(30);
        int many = near(30);
        check("pour", x.pour(from, place, to, at, many), oracle.pour(from, place, to, at, many));
        check("read", x.read(to, at), oracle.read(to, at));
    }

    private void call() {
        int a = anEye();
        int b = anEye();
        int c = anEye();
        int k = near(4);
        int w = random.nextInt(10) == 0 ? near(8) : 1 + 2 * random.nextInt(4);
        switch (random.nextInt(22)) {
            case 0 -> check("both", x.both(a, b), oracle.both(a, b));
            case 1 -> check("factor", x.factor(a, b), oracle.factor(a, b));
            case 2 -> check("middle", x.middle(a, b), oracle.middle(a, b));
            case 3, 4 -> step(a, b, near(20));
            case 5 -> check("blind", x.blind(a, b), oracle.blind(a, b));
            case 6 -> active(a, aDay(), aDay());
            case 7 -> check("chain", x.chain(a, k), oracle.chain(a, k));
            case 8 -> check("weight", x.weight(a), oracle.weight(a));
            case 9 -> check("loop", x.loop(a, b, c), oracle.loop(a, b, c));
            case 10 -> dayAndTold(a, aDay());
            case 11 -> month(aMonth(), w);
            case 12, 13 -> turn(k, w, near(9), random.nextBoolean());
            case 14, 15 -> change(aMonth(), a);
            case 16 -> rules(near(8), near(4));
            case 17 -> unsay(a, aDay());
            case 18 -> check("days", x.days(a), oracle.days(a));
            case 19 -> check("eye", x.eye(), oracle.eye());
            case 20 -> book();
            default -> tell();
        }
    }

    private void step(int a, int b, int groups) {
        check("step", x.step(a, b, groups), oracle.step(a, b, groups));
    }

    private void active(int eye, int from, int to) {
        check("active", x.active(eye, from, to), oracle.active(eye, from, to));
    }

    private void dayAndTold(int eye, int day) {
        int what = near(2);
        check("day", x.day(day), oracle.day(day));
        check("told", x.told(eye, day, what), oracle.told(eye, day, what));
    }

    private void month(int month, int w) {
        check("month", x.month(month), oracle.month(month));
        check("smooth", x.smooth(month, w), oracle.smooth(month, w));
    }

    private void turn(int k, int w, int r, boolean high) {
        check("turn", x.turn(k, w, r, high), oracle.turn(k, w, r, high));
    }

    private void change(int month, int eye) {
        check("change", x.change(month, eye), oracle.change(month, eye));
    }

    private void rules(int least, int enough) {
        check("rules", x.rules(least, enough), oracle.rules(least, enough));
    }

    private void unsay(int eye, int day) {
        check("unsay", x.unsay(eye, day), oracle.unsay(eye, day));
    }
}
