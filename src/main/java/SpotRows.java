import java.util.Arrays;

/** One row of sunspots out of the counts of many eyes. The promises stand in DOC.md. */
public final class SpotRows {
    public static final int NONE = -1;

    private static final int FINE = 0;
    private static final int CANNOT_BE = 1;
    private static final int TRAY_MISSING = 2;
    private static final int NO_PLACE = 3;
    private static final int ONE_TOO_MANY = 4;
    private static final int NOT_TOLD = 5;
    private static final int NONE_SUCH = 6;
    private static final int UNLIKE_SORTS = 7;

    private static final int TRAYS = 4;
    private static final int LONGEST_TRAY = 60;
    private static final int EYES = 8;
    private static final int DAYS = 240;
    private static final int MONTHS = 24;
    private static final int DAYS_OF_MONTH = 10;
    private static final int MOST_GROUPS = 20;
    private static final int MOST_SPOTS = 200;
    private static final int MOST_LEAST = 100;
    private static final int WIDEST_SMOOTH = 7;
    private static final int FARTHEST_REACH = 8;
    private static final int THOUSAND = 1000;

    private final Trays trays;
    private final Tellings tellings;
    private final Ratios ratios;
    private final Steps steps;
    private final Chains chains;
    private final Row row;
    private final Fraction latest;
    private int outcome;

    public SpotRows() {
        trays = new Trays();
        tellings = new Tellings();
        ratios = new Ratios();
        steps = new Steps();
        chains = new Chains();
        row = new Row();
        latest = new Fraction();
        outcome = FINE;
    }

    public int status() {
        return outcome;
    }

    public long top() {
        return latest.upper;
    }

    public long bottom() {
        return latest.lower;
    }

    // ---- TRAYS

    public boolean tray(int tray, int sort, int many) {
        if (!isWithin(tray, TRAYS - 1) || !Trays.isSort(sort) || !isWithin(many, LONGEST_TRAY)) {
            return refuse(CANNOT_BE);
        }
        trays.lay(tray, sort, many);
        return agree();
    }

    public boolean write(int tray, int place, long v) {
        int why = trays.whyNoPlace(tray, place);
        if (why != FINE) {
            return refuse(why);
        }
        trays.put(tray, place, v);
        return agree();
    }

    public long read(int tray, int place) {
        int why = trays.whyNoPlace(tray, place);
        if (why != FINE) {
            return lack(why);
        }
        outcome = FINE;
        return trays.numberAt(tray, place);
    }

    public boolean pour(int from, int place, int to, int at, int many) {
        int why = whyNoPour(from, place, to, at, many);
        if (why != FINE) {
            return refuse(why);
        }
        trays.carry(from, place, to, at, many);
        return agree();
    }

    // ---- EYES

    public int eye() {
        if (tellings.eyes >= EYES) {
            return lack(ONE_TOO_MANY);
        }
        return answer(tellings.addEye());
    }

    public boolean tell(int eye, int day, int groups, int spots) {
        if (!isEye(eye) || !isDay(day) || !Tellings.canBeTold(groups, spots)) {
            return refuse(CANNOT_BE);
        }
        tellings.put(eye, day, THOUSAND * groups + spots);
        return agree();
    }

    public boolean unsay(int eye, int day) {
        if (!isEye(eye) || !isDay(day)) {
            return refuse(CANNOT_BE);
        }
        if (!tellings.has(eye, day)) {
            return refuse(NOT_TOLD);
        }
        tellings.put(eye, day, NONE);
        return agree();
    }

    public boolean book(int eye, int day, int tray, int many) {
        int why = whyNoBook(eye, day, tray, many);
        if (why != FINE) {
            return refuse(why);
        }
        for (int place = 0; place < many; place++) {
            tellings.put(eye, day + place, (int) trays.numberAt(tray, place));
        }
        return agree();
    }

    public int told(int eye, int day, int what) {
        if (!isEye(eye) || !isDay(day) || !isWithin(what, 2)) {
            return lack(CANNOT_BE);
        }
        if (!tellings.has(eye, day)) {
            return lack(NOT_TOLD);
        }
        if (what == 0) {
            return answer(tellings.groupsOf(eye, day));
        }
        return answer(what == 1 ? tellings.spotsOf(eye, day) : tellings.numberOf(eye, day));
    }

    public int days(int eye) {
        if (!isEye(eye)) {
            return lack(CANNOT_BE);
        }
        return answer(tellings.countDays(eye, 0, DAYS - 1));
    }

    public boolean rules(int least, int enough) {
        if (least < 1 || least > MOST_LEAST || enough < 1 || enough > DAYS_OF_MONTH) {
            return refuse(CANNOT_BE);
        }
        tellings.least = least;
        row.enough = enough;
        return agree();
    }

    // ---- one against another

    public int both(int a, int b) {
        if (!arePair(a, b)) {
            return lack(CANNOT_BE);
        }
        return answer(tellings.countBoth(a, b));
    }

    public int factor(int a, int b) {
        if (!arePair(a, b)) {
            return lack(CANNOT_BE);
        }
        return answerOr(NONE_SUCH, tellings.factorOf(a, b));
    }

    public int middle(int a, int b) {
        if (!arePair(a, b)) {
            return lack(CANNOT_BE);
        }
        ratios.gather(tellings, a, b);
        if (ratios.many == 0) {
            return lack(NONE_SUCH);
        }
        ratios.order();
        int mid = (ratios.many - 1) / 2;
        return tellFraction(ratios.uppers[mid], ratios.lowers[mid]);
    }

    public int step(int a, int b, int groups) {
        if (!arePair(a, b) || !isWithin(groups, MOST_GROUPS)) {
            return lack(CANNOT_BE);
        }
        steps.gather(tellings, a, b);
        steps.pool();
        int block = steps.blockFor(groups);
        if (block == NONE) {
            return lack(NONE_SUCH);
        }
        return tellFraction(steps.blockSums[block], steps.blockDays[block]);
    }

    public int blind(int a, int b) {
        if (!arePair(a, b)) {
            return lack(CANNOT_BE);
        }
        if (tellings.countBoth(a, b) == 0) {
            return lack(NONE_SUCH);
        }
        int seen = tellings.countBothAbove(a, b, 0);
        int limit = 0;
        while (limit < MOST_GROUPS && tellings.countBothAbove(b, a, limit) > seen) {
            limit++;
        }
        return answer(limit);
    }

    public int active(int eye, int from, int to) {
        if (!isEye(eye) || !isDay(from) || !isDay(to) || from > to) {
            return lack(CANNOT_BE);
        }
        int all = tellings.countDays(eye, from, to);
        if (all == 0) {
            return lack(NOT_TOLD);
        }
        return tellFraction(tellings.countActive(eye, from, to), all);
    }

    public int chain(int eye, int k) {
        if (!isEye(eye)) {
            return lack(CANNOT_BE);
        }
        chains.reckon(tellings, NONE);
        if (k < 0 || k > chains.links[eye]) {
            return lack(NONE_SUCH);
        }
        chains.walk(tellings, eye);
        return answer(chains.way[k]);
    }

    public int weight(int eye) {
        if (!isEye(eye)) {
            return lack(CANNOT_BE);
        }
        chains.reckon(tellings, NONE);
        return answerOr(NONE_SUCH, chains.weights[eye]);
    }

    public int loop(int a, int b, int c) {
        if (!arePair(a, b) || !arePair(b, c) || a == c) {
            return lack(CANNOT_BE);
        }
        long first = tellings.factorOf(a, b);
        long second = tellings.factorOf(b, c);
        long third = tellings.factorOf(c, a);
        if (first == NONE || second == NONE || third == NONE) {
            return lack(NONE_SUCH);
        }
        return answer((int) (first * second * third / (THOUSAND * THOUSAND)));
    }

    // ---- the row

    public int day(int day) {
        if (!isDay(day)) {
            return lack(CANNOT_BE);
        }
        chains.reckon(tellings, NONE);
        return answerOr(NOT_TOLD, row.valueOfDay(tellings, chains, day));
    }

    public int month(int month) {
        if (!isMonth(month)) {
            return lack(CANNOT_BE);
        }
        return answerOr(NOT_TOLD, monthWithout(month, NONE));
    }

    public int smooth(int month, int w) {
        if (!isMonth(month) || !Row.isSmoothWidth(w)) {
            return lack(CANNOT_BE);
        }
        chains.reckon(tellings, NONE);
        row.reckonMonths(tellings, chains);
        return answerOr(NOT_TOLD, row.smoothOf(month, w));
    }

    public int turn(int k, int w, int r, boolean high) {
        if (!Row.isSmoothWidth(w) || r < 1 || r > FARTHEST_REACH) {
            return lack(CANNOT_BE);
        }
        if (k < 0) {
            return lack(NONE_SUCH);
        }
        chains.reckon(tellings, NONE);
        row.reckonMonths(tellings, chains);
        row.reckonSmooths(w);
        return answerOr(NONE_SUCH, row.findTurn(k, r, high));
    }

    public int change(int month, int eye) {
        if (!isMonth(month) || !isEye(eye) || eye == 0) {
            return lack(CANNOT_BE);
        }
        int with = monthWithout(month, NONE);
        int without = monthWithout(month, eye);
        if (with == NONE || without == NONE) {
            return lack(NOT_TOLD);
        }
        return answer(with - without);
    }

    // ---- what the calls share

    private static boolean isWithin(int number, int most) {
        return number >= 0 && number <= most;
    }

    private static boolean isDay(int day) {
        return isWithin(day, DAYS - 1);
    }

    private static boolean isMonth(int month) {
        return isWithin(month, MONTHS - 1);
    }

    private boolean isEye(int eye) {
        return eye >= 0 && eye < tellings.eyes;
    }

    private boolean arePair(int a, int b) {
        return isEye(a) && isEye(b) && a != b;
    }

    private boolean agree() {
        outcome = FINE;
        return true;
    }

    private boolean refuse(int why) {
        outcome = why;
        return false;
    }

    private int answer(int number) {
        outcome = FINE;
        return number;
    }

    private int lack(int why) {
        outcome = why;
        return NONE;
    }

    // Only for answers that are never below 0: there NONE can't be an answer itself.
    private int answerOr(int why, int number) {
        return number == NONE ? lack(why) : answer(number);
    }

    private int tellFraction(int upper, int lower) {
        latest.put(upper, lower);
        return answer(upper > 0 ? 1 : 0);
    }

    private int whyNoPour(int from, int place, int to, int at, int many) {
        if (!isWithin(from, TRAYS - 1) || !isWithin(to, TRAYS - 1)) {
            return CANNOT_BE;
        }
        if (place < 0 || at < 0 || many < 0) {
            return CANNOT_BE;
        }
        if (trays.isMissing(from) || trays.isMissing(to)) {
            return TRAY_MISSING;
        }
        if (!trays.areAlike(from, to)) {
            return UNLIKE_SORTS;
        }
        return trays.holds(from, place, many) && trays.holds(to, at, many) ? FINE : NO_PLACE;
    }

    private int whyNoBook(int eye, int day, int tray, int many) {
        if (!isEye(eye) || !isDay(day) || !isWithin(tray, TRAYS - 1)) {
            return CANNOT_BE;
        }
        if (many < 1 || many > LONGEST_TRAY || !isDay(day + many - 1)) {
            return CANNOT_BE;
        }
        if (trays.isMissing(tray)) {
            return TRAY_MISSING;
        }
        if (!trays.holds(tray, 0, many)) {
            return NO_PLACE;
        }
        // All are asked ahead of the first one that is taken: a refused book changes nothing.
        for (int place = 0; place < many; place++) {
            if (!Tellings.isCode(trays.numberAt(tray, place))) {
                return CANNOT_BE;
            }
        }
        return FINE;
    }

    private int monthWithout(int month, int eye) {
        chains.reckon(tellings, eye);
        return row.valueOfMonth(tellings, chains, month);
    }

    /** The FRACTION told latest, without a common divisor. */
    private static final class Fraction {
        // More rounds of Euclid than any two numbers of an int need.
        private static final int MOST_ROUNDS = 64;

        private long upper;
        private long lower;

        Fraction() {
            upper = 0;
            lower = 1;
        }

        void put(int newUpper, int newLower) {
            int divisor = commonDivisor(newUpper, newLower);
            if (divisor > 0) {
                upper = newUpper / divisor;
                lower = newLower / divisor;
            }
        }

        private static int commonDivisor(int a, int b) {
            int greater = a;
            int rest = b;
            for (int round = 0; round < MOST_ROUNDS && rest != 0; round++) {
                int next = greater % rest;
                greater = rest;
                rest = next;
            }
            return greater;
        }
    }

    /** The TRAYS: their cells stand in one row, made once, so that no call makes a new one. */
    private static final class Trays {
        private static final int SORT_8 = 0;
        private static final int SORT_16 = 1;
        private static final int SORT_32 = 2;
        private static final int SORT_64 = 3;

        private final long[] cells;
        private final int[] sorts;
        private final int[] sizes;

        Trays() {
            cells = new long[TRAYS * LONGEST_TRAY];
            sorts = new int[TRAYS];
            sizes = new int[TRAYS];
            Arrays.fill(sorts, NONE);
        }

        static boolean isSort(int sort) {
            return sort >= SORT_8 && sort <= SORT_64;
        }

        boolean isMissing(int tray) {
            return sorts[tray] == NONE;
        }

        boolean areAlike(int one, int other) {
            return sorts[one] == sorts[other];
        }

        boolean holds(int tray, int place, int many) {
            return (long) place + many <= sizes[tray];
        }

        int whyNoPlace(int tray, int place) {
            if (!isWithin(tray, TRAYS - 1)) {
                return CANNOT_BE;
            }
            if (isMissing(tray)) {
                return TRAY_MISSING;
            }
            return place >= 0 && place < sizes[tray] ? FINE : NO_PLACE;
        }

        void lay(int tray, int sort, int many) {
            sorts[tray] = sort;
            sizes[tray] = many;
            Arrays.fill(cells, tray * LONGEST_TRAY, (tray + 1) * LONGEST_TRAY, 0L);
        }

        long numberAt(int tray, int place) {
            return cells[tray * LONGEST_TRAY + place];
        }

        void put(int tray, int place, long number) {
            cells[tray * LONGEST_TRAY + place] = cut(sorts[tray], number);
        }

        void carry(int from, int place, int to, int at, int many) {
            System.arraycopy(cells, from * LONGEST_TRAY + place, cells, to * LONGEST_TRAY + at, many);
        }

        private static long cut(int sort, long number) {
            switch (sort) {
                case SORT_8:
                    return (byte) number;
                case SORT_16:
                    return (short) number;
                case SORT_32:
                    return (int) number;
                default:
                    return number;
            }
        }
    }

    /** What the EYES TELL, and what each two of them have in common, kept up with each telling. */
    private static final class Tellings {
        private static final int LEAST_FACTOR = 10;
        private static final int MOST_FACTOR = 100000;

        // 1,000 times GROUPS and SPOTS, or NONE, as a book has them.
        private final int[] codes;
        private final int[] bothDays;
        // At (a, b): the NUMBERS of a on the DAYS of BOTH.
        private final int[] bothSums;
        private int eyes;
        private int least;

        Tellings() {
            codes = new int[EYES * DAYS];
            bothDays = new int[EYES * EYES];
            bothSums = new int[EYES * EYES];
            Arrays.fill(codes, NONE);
            eyes = 0;
            least = 10;
        }

        static boolean canBeTold(int groups, int spots) {
            return isWithin(groups, MOST_GROUPS) && isWithin(spots, MOST_SPOTS) && spots >= groups;
        }

        static boolean isCode(long number) {
            if (number == NONE) {
                return true;
            }
            if (number < 0 || number > THOUSAND * MOST_GROUPS + MOST_SPOTS) {
                return false;
            }
            int code = (int) number;
            return canBeTold(code / THOUSAND, code % THOUSAND);
        }

        int addEye() {
            eyes++;
            return eyes - 1;
        }

        boolean has(int eye, int day) {
            return codes[eye * DAYS + day] != NONE;
        }

        boolean haveBoth(int a, int b, int day) {
            return has(a, day) && has(b, day);
        }

        int groupsOf(int eye, int day) {
            return codes[eye * DAYS + day] / THOUSAND;
        }

        int spotsOf(int eye, int day) {
            return codes[eye * DAYS + day] % THOUSAND;
        }

        int numberOf(int eye, int day) {
            return 10 * groupsOf(eye, day) + spotsOf(eye, day);
        }

        void put(int eye, int day, int code) {
            countIn(eye, day, -1);
            codes[eye * DAYS + day] = code;
            countIn(eye, day, 1);
        }

        private void countIn(int eye, int day, int sign) {
            if (!has(eye, day)) {
                return;
            }
            for (int other = 0; other < eyes; other++) {
                if (other != eye && has(other, day)) {
                    int there = eye * EYES + other;
                    int back = other * EYES + eye;
                    bothDays[there] += sign;
                    bothDays[back] += sign;
                    bothSums[there] += sign * numberOf(eye, day);
                    bothSums[back] += sign * numberOf(other, day);
                }
            }
        }

        int countDays(int eye, int from, int to) {
            int many = 0;
            for (int day = from; day <= to; day++) {
                if (has(eye, day)) {
                    many++;
                }
            }
            return many;
        }

        int countActive(int eye, int from, int to) {
            int many = 0;
            for (int day = from; day <= to; day++) {
                if (has(eye, day) && groupsOf(eye, day) > 0) {
                    many++;
                }
            }
            return many;
        }

        int countBoth(int a, int b) {
            return bothDays[a * EYES + b];
        }

        int countBothAbove(int a, int b, int groups) {
            int many = 0;
            for (int day = 0; day < DAYS; day++) {
                if (haveBoth(a, b, day) && groupsOf(a, day) > groups) {
                    many++;
                }
            }
            return many;
        }

        int factorOf(int a, int b) {
            int own = bothSums[a * EYES + b];
            int others = bothSums[b * EYES + a];
            if (bothDays[a * EYES + b] < least || own <= 0 || others <= 0) {
                return NONE;
            }
            int factor = others * THOUSAND / own;
            return factor >= LEAST_FACTOR && factor <= MOST_FACTOR ? factor : NONE;
        }
    }

    /** The fractions of two EYES' NUMBERS, of which MIDDLE is one. */
    private static final class Ratios {
        // Steps of a Shell sort that are far apart first: 240 fractions need few moves so.
        private static final int WIDEST_GAP = 121;

        private final int[] uppers;
        private final int[] lowers;
        private int many;

        Ratios() {
            uppers = new int[DAYS];
            lowers = new int[DAYS];
            many = 0;
        }

        void gather(Tellings tellings, int a, int b) {
            many = 0;
            for (int day = 0; day < DAYS; day++) {
                if (tellings.haveBoth(a, b, day) && tellings.numberOf(a, day) > 0) {
                    uppers[many] = tellings.numberOf(b, day);
                    lowers[many] = tellings.numberOf(a, day);
                    many++;
                }
            }
        }

        void order() {
            for (int gap = WIDEST_GAP; gap > 0; gap = gap / 3) {
                for (int place = gap; place < many; place++) {
                    sink(place, gap);
                }
            }
        }

        private void sink(int place, int gap) {
            int upper = uppers[place];
            int lower = lowers[place];
            int at = place;
            while (at >= gap && upper * lowers[at - gap] < uppers[at - gap] * lower) {
                uppers[at] = uppers[at - gap];
                lowers[at] = lowers[at - gap];
                at -= gap;
            }
            uppers[at] = upper;
            lowers[at] = lower;
        }
    }

    /** STEPS of an EYE to another one: neighbours that fall are pooled to their common mean. */
    private static final class Steps {
        private final int[] levelSums;
        private final int[] levelDays;
        private final int[] blockSums;
        private final int[] blockDays;
        private final int[] blockFirsts;
        private int blocks;

        Steps() {
            levelSums = new int[MOST_GROUPS + 1];
            levelDays = new int[MOST_GROUPS + 1];
            blockSums = new int[MOST_GROUPS + 1];
            blockDays = new int[MOST_GROUPS + 1];
            blockFirsts = new int[MOST_GROUPS + 1];
            blocks = 0;
        }

        void gather(Tellings tellings, int a, int b) {
            Arrays.fill(levelSums, 0);
            Arrays.fill(levelDays, 0);
            for (int day = 0; day < DAYS; day++) {
                if (tellings.haveBoth(a, b, day)) {
                    int groups = tellings.groupsOf(a, day);
                    levelSums[groups] += tellings.groupsOf(b, day);
                    levelDays[groups]++;
                }
            }
        }

        void pool() {
            blocks = 0;
            for (int groups = 0; groups <= MOST_GROUPS; groups++) {
                if (levelDays[groups] > 0) {
                    blockSums[blocks] = levelSums[groups];
                    blockDays[blocks] = levelDays[groups];
                    blockFirsts[blocks] = groups;
                    blocks++;
                    joinFalling();
                }
            }
        }

        private void joinFalling() {
            while (blocks > 1 && lastFalls()) {
                blockSums[blocks - 2] += blockSums[blocks - 1];
                blockDays[blocks - 2] += blockDays[blocks - 1];
                blocks--;
            }
        }

        private boolean lastFalls() {
            int last = blocks - 1;
            return blockSums[last] * blockDays[last - 1] < blockSums[last - 1] * blockDays[last];
        }

        int blockFor(int groups) {
            int found = NONE;
            for (int block = 0; block < blocks; block++) {
                if (blockFirsts[block] <= groups) {
                    found = block;
                }
            }
            return found;
        }
    }

    /** CHAINS and WEIGHTS of all EYES, perhaps without one of them. */
    private static final class Chains {
        private static final int MOST_WEIGHT = 1000000;

        // How many FACTORS lie between an EYE and EYE 0; NONE: it is LOST.
        private final int[] links;
        // The least BOTH on the best way of so many links.
        private final int[] widths;
        private final int[] weights;
        private final int[] way;

        Chains() {
            links = new int[EYES];
            widths = new int[EYES];
            weights = new int[EYES];
            way = new int[EYES];
        }

        // An EYE that is left out has no link, so it's LOST, and no DAY counts what it told.
        void reckon(Tellings tellings, int without) {
            Arrays.fill(links, NONE);
            Arrays.fill(widths, 0);
            links[0] = 0;
            widths[0] = DAYS;
            for (int link = 1; link < EYES; link++) {
                for (int eye = 1; eye < tellings.eyes; eye++) {
                    if (eye != without && links[eye] == NONE) {
                        reach(tellings, eye, link);
                    }
                }
            }
            for (int eye = 0; eye < EYES; eye++) {
                weights[eye] = weigh(tellings, eye);
            }
        }

        private void reach(Tellings tellings, int eye, int link) {
            for (int next = 0; next < tellings.eyes; next++) {
                if (links[next] == link - 1 && tellings.factorOf(eye, next) != NONE) {
                    links[eye] = link;
                    int width = Math.min(tellings.countBoth(eye, next), widths[next]);
                    widths[eye] = Math.max(widths[eye], width);
                }
            }
        }

        // The next EYE's own CHAIN may be a wider one, so the way is walked anew for each EYE.
        void walk(Tellings tellings, int eye) {
            way[0] = eye;
            for (int k = 1; k <= links[eye]; k++) {
                way[k] = firstNext(tellings, way[k - 1], widths[eye]);
            }
        }

        private int firstNext(Tellings tellings, int eye, int width) {
            for (int next = 0; next < tellings.eyes; next++) {
                if (links[next] == links[eye] - 1 && widths[next] >= width
                        && tellings.countBoth(eye, next) >= width
                        && tellings.factorOf(eye, next) != NONE) {
                    return next;
                }
            }
            return 0;
        }

        private int weigh(Tellings tellings, int eye) {
            if (links[eye] == NONE) {
                return NONE;
            }
            walk(tellings, eye);
            long weight = THOUSAND;
            for (int k = links[eye]; k > 0; k--) {
                weight = weight * tellings.factorOf(way[k - 1], way[k]) / THOUSAND;
                weight = Math.min(weight, MOST_WEIGHT);
            }
            return (int) weight;
        }
    }

    /** VALUES of DAYS and MONTHS, by CHAINS that have been reckoned. */
    private static final class Row {
        private final int[] values;
        private final int[] smooths;
        private int enough;

        Row() {
            values = new int[MONTHS];
            smooths = new int[MONTHS];
            enough = 3;
        }

        static boolean isSmoothWidth(int width) {
            return width >= 1 && width <= WIDEST_SMOOTH && width % 2 == 1;
        }

        int valueOfDay(Tellings tellings, Chains chains, int day) {
            long sum = 0;
            int many = 0;
            for (int eye = 0; eye < tellings.eyes; eye++) {
                if (chains.weights[eye] != NONE && tellings.has(eye, day)) {
                    sum += (long) tellings.numberOf(eye, day) * chains.weights[eye];
                    many++;
                }
            }
            return many == 0 ? NONE : (int) (sum / many);
        }

        int valueOfMonth(Tellings tellings, Chains chains, int month) {
            long sum = 0;
            int many = 0;
            for (int k = 0; k < DAYS_OF_MONTH; k++) {
                int value = valueOfDay(tellings, chains, month * DAYS_OF_MONTH + k);
                if (value != NONE) {
                    sum += value;
                    many++;
                }
            }
            return many == 0 || many < enough ? NONE : (int) (sum / many);
        }

        void reckonMonths(Tellings tellings, Chains chains) {
            for (int month = 0; month < MONTHS; month++) {
                values[month] = valueOfMonth(tellings, chains, month);
            }
        }

        int smoothOf(int month, int width) {
            if (values[month] == NONE) {
                return NONE;
            }
            int side = (width - 1) / 2;
            int last = Math.min(month + side, MONTHS - 1);
            long sum = 0;
            int many = 0;
            for (int near = Math.max(month - side, 0); near <= last; near++) {
                if (values[near] != NONE) {
                    sum += values[near];
                    many++;
                }
            }
            return many == 0 ? NONE : (int) (sum / many);
        }

        void reckonSmooths(int width) {
            for (int month = 0; month < MONTHS; month++) {
                smooths[month] = smoothOf(month, width);
            }
        }

        int findTurn(int k, int reach, boolean high) {
            int before = 0;
            for (int month = 0; month < MONTHS; month++) {
                if (isTurn(month, reach, high)) {
                    if (before == k) {
                        return month;
                    }
                    before++;
                }
            }
            return NONE;
        }

        private boolean isTurn(int month, int reach, boolean high) {
            if (smooths[month] == NONE) {
                return false;
            }
            int last = Math.min(month + reach, MONTHS - 1);
            for (int near = Math.max(month - reach, 0); near <= last; near++) {
                if (near != month && smooths[near] != NONE && outdoes(near, month, high)) {
                    return false;
                }
            }
            return true;
        }

        // Of like MONTHS the first one is the turn: a like one ahead of it outdoes a MONTH.
        private boolean outdoes(int near, int month, boolean high) {
            int more = high ? smooths[near] - smooths[month] : smooths[month] - smooths[near];
            return near < month ? more >= 0 : more > 0;
        }
    }
}
