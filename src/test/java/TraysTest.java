/** Promises 5 to 8: tray, write, read, pour. */
public final class TraysTest {
    private static final Due due = new Due();

    public static void main(String[] args) {
        trays();
        traysAreApart();
        writesAreCut();
        places();
        pours();
        poursOverItself();
        pourAsksInOrder();
        due.end("TraysTest");
    }

    private static void trays() {
        due.says("A TRAY is a row of so many 0s (1).");
        SpotRows x = new SpotRows();
        due.met(x, "tray of 60", x.tray(3, 3, 60));
        due.met(x, "read of the last place", x.read(3, 59), 0);
        due.met(x, "tray of none", x.tray(0, 0, 0));
        due.lacks(x, "read of an empty tray", x.read(0, 0), 3);
        due.lacks(x, "tray -1", x.tray(-1, 0, 1), 1);
        due.lacks(x, "tray 4", x.tray(4, 0, 1), 1);
        due.lacks(x, "sort -1", x.tray(1, -1, 1), 1);
        due.lacks(x, "sort 4", x.tray(1, 4, 1), 1);
        due.lacks(x, "many -1", x.tray(1, 0, -1), 1);
        due.lacks(x, "many 61", x.tray(1, 0, 61), 1);
        due.lacks(x, "a tray that was refused", x.read(1, 0), 2);
        x.write(3, 59, 5);
        due.met(x, "a tray anew", x.tray(3, 2, 60));
        due.met(x, "a tray anew is of 0s", x.read(3, 59), 0);
        due.met(x, "a shorter tray", x.tray(3, 2, 2));
        due.lacks(x, "a shorter tray's old place", x.read(3, 2), 3);
    }

    private static void traysAreApart() {
        due.says("A TRAY is a row of so many 0s (1).");
        SpotRows x = new SpotRows();
        for (int tray = 0; tray < 4; tray++) {
            x.tray(tray, 3, 60);
            x.write(tray, 0, 10 + tray);
            x.write(tray, 59, 20 + tray);
        }
        for (int anew = 0; anew < 4; anew++) {
            due.met(x, "a tray anew", x.tray(anew, 3, 60));
            for (int tray = 0; tray < 4; tray++) {
                due.met(x, "first of " + tray, x.read(tray, 0), tray <= anew ? 0 : 10 + tray);
                due.met(x, "last of " + tray, x.read(tray, 59), tray <= anew ? 0 : 20 + tray);
            }
        }
        x.write(3, 59, 7);
        due.met(x, "pour from 3", x.pour(3, 58, 0, 1, 2));
        holds(x, 0, 0, 0, 7, 0);
        due.met(x, "pour to 3", x.pour(0, 2, 3, 0, 1));
        holds(x, 3, 7, 0);
    }

    private static void writesAreCut() {
        due.says("A number comes to a place of a TRAY, cut to its sort (1, 2, 3).");
        SpotRows x = new SpotRows();
        for (int sort = 0; sort < 4; sort++) {
            x.tray(sort, sort, 1);
        }
        long[] numbers = {0, 1, -1, 127, 128, 255, 256, -128, -129, 32767, 32768, 65535, -32769,
            2147483647L, 2147483648L, 4294967295L, -2147483649L, Long.MAX_VALUE, Long.MIN_VALUE};
        for (long v : numbers) {
            for (int sort = 0; sort < 4; sort++) {
                due.met(x, "write " + v, x.write(sort, 0, v));
            }
            due.met(x, "8 bits of " + v, x.read(0, 0), (byte) v);
            due.met(x, "16 bits of " + v, x.read(1, 0), (short) v);
            due.met(x, "32 bits of " + v, x.read(2, 0), (int) v);
            due.met(x, "64 bits of " + v, x.read(3, 0), v);
        }
    }

    private static void places() {
        due.says("The number in a place of a TRAY; STATUS tells NONE from -1 (1, 2, 3).");
        SpotRows x = new SpotRows();
        due.lacks(x, "write into tray -1", x.write(-1, 0, 1), 1);
        due.lacks(x, "write into tray 4", x.write(4, 0, 1), 1);
        due.lacks(x, "write into a missing tray", x.write(0, -1, 1), 2);
        due.lacks(x, "read of tray -1", x.read(-1, 0), 1);
        due.lacks(x, "read of tray 4", x.read(4, 0), 1);
        due.lacks(x, "read of a missing tray", x.read(0, 99), 2);
        x.tray(0, 3, 3);
        x.tray(1, 3, 3);
        due.lacks(x, "write behind the end", x.write(0, 3, 1), 3);
        due.lacks(x, "write ahead of the start", x.write(1, -1, 1), 3);
        due.lacks(x, "write far away", x.write(0, Integer.MAX_VALUE, 1), 3);
        due.lacks(x, "write far ahead", x.write(0, Integer.MIN_VALUE, 1), 3);
        due.lacks(x, "read behind the end", x.read(0, 3), 3);
        due.lacks(x, "read ahead of the start", x.read(1, -1), 3);
        due.met(x, "write", x.write(0, 2, 8));
        due.met(x, "read", x.read(0, 2), 8);
        due.met(x, "read beside it", x.read(0, 1), 0);
        due.met(x, "read of the next tray", x.read(1, 0), 0);
        x.write(0, 0, -1);
        due.met(x, "read of -1", x.read(0, 0), -1);
    }

    private static void pours() {
        due.says("So many numbers of a TRAY, from a place on");
        SpotRows x = new SpotRows();
        fill(x, 0, 5);
        x.tray(1, 3, 4);
        due.met(x, "pour", x.pour(0, 1, 1, 2, 2));
        holds(x, 1, 0, 0, 2, 3);
        holds(x, 0, 1, 2, 3, 4, 5);
        due.met(x, "pour to the end", x.pour(0, 2, 1, 1, 3));
        holds(x, 1, 0, 3, 4, 5);
        due.met(x, "pour of nothing", x.pour(0, 0, 1, 0, 0));
        due.met(x, "pour of nothing at the ends", x.pour(0, 5, 1, 4, 0));
        holds(x, 1, 0, 3, 4, 5);
        due.lacks(x, "too few in the first", x.pour(0, 3, 1, 0, 3), 3);
        due.lacks(x, "too few in the second", x.pour(0, 0, 1, 2, 3), 3);
        due.lacks(x, "a place behind the first", x.pour(0, 6, 1, 0, 0), 3);
        due.lacks(x, "a place behind the second", x.pour(0, 0, 1, 5, 0), 3);
        due.lacks(x, "far too many", x.pour(0, 1, 1, 1, Integer.MAX_VALUE), 3);
        due.lacks(x, "far too far", x.pour(0, Integer.MAX_VALUE, 1, 1, 1), 3);
        due.lacks(x, "far too far behind", x.pour(0, 1, 1, Integer.MAX_VALUE, Integer.MAX_VALUE), 3);
        holds(x, 1, 0, 3, 4, 5);
    }

    private static void poursOverItself() {
        due.says("come to another one's (or its own) place on, as they were");
        SpotRows x = new SpotRows();
        fill(x, 0, 5);
        due.met(x, "pour down", x.pour(0, 0, 0, 1, 4));
        holds(x, 0, 1, 1, 2, 3, 4);
        fill(x, 0, 5);
        due.met(x, "pour up", x.pour(0, 2, 0, 0, 3));
        holds(x, 0, 3, 4, 5, 4, 5);
        due.met(x, "pour on itself", x.pour(0, 0, 0, 0, 5));
        holds(x, 0, 3, 4, 5, 4, 5);
    }

    private static void pourAsksInOrder() {
        due.says("1: below 0, too; 2; 7; 3; asked in this order");
        SpotRows x = new SpotRows();
        x.tray(1, 0, 2);
        x.tray(2, 1, 2);
        due.lacks(x, "from -1", x.pour(-1, 0, 1, 0, 1), 1);
        due.lacks(x, "from 4", x.pour(4, 0, 1, 0, 1), 1);
        due.lacks(x, "to -1", x.pour(1, 0, -1, 0, 1), 1);
        due.lacks(x, "to 4", x.pour(1, 0, 4, 0, 1), 1);
        due.lacks(x, "place -1 of a missing one", x.pour(0, -1, 1, 0, 1), 1);
        due.lacks(x, "at -1 of a missing one", x.pour(1, 0, 0, -1, 1), 1);
        due.lacks(x, "many -1 of a missing one", x.pour(0, 0, 1, 0, -1), 1);
        due.lacks(x, "from a missing one", x.pour(0, 9, 1, 9, 9), 2);
        due.lacks(x, "to a missing one", x.pour(1, 9, 0, 9, 9), 2);
        due.lacks(x, "unlike sorts and places", x.pour(1, 9, 2, 9, 9), 7);
        due.lacks(x, "unlike sorts", x.pour(1, 0, 2, 0, 1), 7);
        due.lacks(x, "unlike sorts, back", x.pour(2, 0, 1, 0, 1), 7);
        due.lacks(x, "places", x.pour(1, 2, 1, 0, 1), 3);
    }

    private static void fill(SpotRows x, int tray, int many) {
        x.tray(tray, 3, many);
        for (int place = 0; place < many; place++) {
            x.write(tray, place, place + 1);
        }
    }

    private static void holds(SpotRows x, int tray, long... numbers) {
        for (int place = 0; place < numbers.length; place++) {
            due.met(x, "read(" + tray + ", " + place + ")", x.read(tray, place), numbers[place]);
        }
    }
}
