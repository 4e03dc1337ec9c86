/** States that a call is asked in, each made anew by the same calls, fewer than 60. */
enum Scene {
    /** No EYES, no TRAYS. */
    NEW,
    /** 3 EYES, LEAST and ENOUGH as at first; an empty TRAY, and TRAY 3 MISSING. */
    SMALL,
    /** 8 EYES, LEAST 2, ENOUGH 2; TRAYS 0 and 3 are alike and full, TRAY 2 is MISSING. */
    FULL;

    SpotRows make() {
        SpotRows x = new SpotRows();
        if (this == SMALL) {
            makeSmall(x);
        }
        if (this == FULL) {
            makeFull(x);
        }
        return x;
    }

    private static void eyes(SpotRows x, int many) {
        for (int eye = 0; eye < many; eye++) {
            x.eye();
        }
    }

    private static void writeAll(SpotRows x, int tray, long... numbers) {
        for (int place = 0; place < numbers.length; place++) {
            x.write(tray, place, numbers[place]);
        }
    }

    /** BOTH of 0 and 1 are 10, as LEAST, and BOTH with 2 are 9; MONTH 1 has 3 DAYS, MONTH 2 has 2. */
    private static void makeSmall(SpotRows x) {
        eyes(x, 3);
        x.tray(0, 2, 12);
        writeAll(x, 0, 1005, 3, 2010, 4020, 0, 5007, 20200, 1001, 3030, 2002, -1, 7);
        x.book(0, 0, 0, 10);
        x.tray(2, 2, 3);
        writeAll(x, 2, 1002, 0, 6010);
        x.pour(2, 0, 0, 1, 3);
        x.book(1, 0, 0, 10);
        x.book(2, 0, 0, 9);
        x.tray(1, 0, 0);
        x.book(0, 10, 2, 3);
        x.book(0, 20, 2, 2);
        x.middle(0, 1);
    }

    /** BOTH of 0 and 1 are 2, as LEAST; of 0 and 2 they are 1; 3 TELLS nothing; 6 comes by 5. */
    private static void makeFull(SpotRows x) {
        eyes(x, 8);
        x.rules(2, 2);
        int[][] told = {{0, 0, 0, 5}, {0, 1, 2, 9}, {0, 100, 1, 1}, {0, 238, 3, 40}, {0, 239, 20, 200},
            {1, 0, 2, 3}, {1, 239, 9, 90}, {2, 0, 1, 1}, {4, 0, 3, 3}, {4, 1, 0, 0}, {4, 239, 8, 8},
            {5, 238, 1, 10}, {5, 239, 9, 70}, {5, 50, 4, 4}, {5, 51, 5, 5}, {6, 50, 2, 2}, {6, 51, 6, 6},
            {7, 0, 0, 8}, {7, 239, 9, 11}, {7, 120, 7, 7}};
        for (int[] one : told) {
            x.tell(one[0], one[1], one[2], one[3]);
        }
        x.tray(0, 3, 60);
        writeAll(x, 0, 1001, 200, -1, 20020, 0, 3100);
        for (int many = 6; many < 48; many = many * 2) {
            x.pour(0, 0, 0, many, many);
        }
        x.pour(0, 0, 0, 48, 12);
        x.tray(3, 3, 60);
        x.pour(0, 1, 3, 0, 59);
        x.tray(1, 1, 4);
        writeAll(x, 1, 1001, -1, -2, 5);
        x.active(0, 0, 239);
    }
}
