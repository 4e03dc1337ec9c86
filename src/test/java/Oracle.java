import java.util.ArrayList;
import java.util.List;

/**
 * The document read anew, slowly: no sums are kept, all ways are tried, no call shares code
 * with SpotRows. Each call leaves its answer in the return and its STATUS in status.
 */
final class Oracle {
    int status;
    long top;
    long bottom = 1;
    private final long[][] trays = new long[4][];
    private final int[] sorts = new int[4];
    private final List<int[][]> eyes = new ArrayList<>();
    private int least = 10;
    private int enough = 3;

    private long end(int newStatus, long answer) {
        status = newStatus;
        return newStatus == 0 ? answer : -1;
    }

    private long done(int newStatus) {
        status = newStatus;
        return newStatus == 0 ? 1 : 0;
    }

    private long fraction(long over, long under) {
        long divisor = under;
        while (over % divisor != 0 || under % divisor != 0) {
            divisor--;
        }
        top = over / divisor;
        bottom = under / divisor;
        return end(0, over > 0 ? 1 : 0);
    }

    long tray(int tray, int sort, int many) {
        if (tray < 0 || tray > 3 || sort < 0 || sort > 3 || many < 0 || many > 60) {
            return done(1);
        }
        trays[tray] = new long[many];
        sorts[tray] = sort;
        return done(0);
    }

    private int place(int tray, int place) {
        if (tray < 0 || tray > 3) {
            return 1;
        }
        if (trays[tray] == null) {
            return 2;
        }
        return place < 0 || place >= trays[tray].length ? 3 : 0;
    }

    long write(int tray, int place, long v) {
        int why = place(tray, place);
        if (why == 0) {
            int shift = 64 - (8 << sorts[tray]);
            trays[tray][place] = v << shift >> shift;
        }
        return done(why);
    }

    long read(int tray, int place) {
        int why = place(tray, place);
        return end(why, why == 0 ? trays[tray][place] : 0);
    }

    long pour(int from, int place, int to, int at, int many) {
        if (from < 0 || from > 3 || to < 0 || to > 3 || place < 0 || at < 0 || many < 0) {
            return done(1);
        }
        if (trays[from] == null || trays[to] == null) {
            return done(2);
        }
        if (sorts[from] != sorts[to]) {
            return done(7);
        }
        if ((long) place + many > trays[from].length || (long) at + many > trays[to].length) {
            return done(3);
        }
        long[] taken = trays[from].clone();
        for (int k = 0; k < many; k++) {
            trays[to][at + k] = taken[place + k];
        }
        return done(0);
    }

    long eye() {
        if (eyes.size() == 8) {
            return end(4, 0);
        }
        eyes.add(new int[240][]);
        return end(0, eyes.size() - 1);
    }

    private boolean eye(int eye) {
        return eye >= 0 && eye < eyes.size();
    }

    private static boolean dayIs(int day) {
        return day >= 0 && day <= 239;
    }

    private boolean pair(int a, int b) {
        return eye(a) && eye(b) && a != b;
    }

    long tell(int eye, int day, int groups, int spots) {
        if (!eye(eye) || !dayIs(day) || !fits(groups, spots)) {
            return done(1);
        }
        eyes.get(eye)[day] = new int[] {groups, spots};
        return done(0);
    }

    private static boolean fits(int groups, int spots) {
        return groups >= 0 && groups <= 20 && spots >= 0 && spots <= 200 && spots >= groups;
    }

    long unsay(int eye, int day) {
        if (!eye(eye) || !dayIs(day)) {
            return done(1);
        }
        if (eyes.get(eye)[day] == null) {
            return done(5);
        }
        eyes.get(eye)[day] = null;
        return done(0);
    }

    long book(int eye, int day, int tray, int many) {
        if (!eye(eye) || !dayIs(day) || tray < 0 || tray > 3 || many < 1 || many > 60
                || day + many > 240) {
            return done(1);
        }
        if (trays[tray] == null) {
            return done(2);
        }
        if (trays[tray].length < many) {
            return done(3);
        }
        int[][] found = new int[many][];
        for (int k = 0; k < many; k++) {
            long number = trays[tray][k];
            if (number == -1) {
                continue;
            }
            for (int groups = 0; groups <= 20; groups++) {
                long spots = number - 1000L * groups;
                if (spots >= groups && spots <= 200) {
                    found[k] = new int[] {groups, (int) spots};
                }
            }
            if (found[k] == null) {
                return done(1);
            }
        }
        System.arraycopy(found, 0, eyes.get(eye), day, many);
        return done(0);
    }

    long told(int eye, int day, int what) {
        if (!eye(eye) || !dayIs(day) || what < 0 || what > 2) {
            return end(1, 0);
        }
        int[] pair = eyes.get(eye)[day];
        if (pair == null) {
            return end(5, 0);
        }
        return end(0, what == 2 ? number(pair) : pair[what]);
    }

    private static long number(int[] pair) {
        return 10L * pair[0] + pair[1];
    }

    long days(int eye) {
        if (!eye(eye)) {
            return end(1, 0);
        }
        int many = 0;
        for (int[] pair : eyes.get(eye)) {
            many += pair == null ? 0 : 1;
        }
        return end(0, many);
    }

    long rules(int newLeast, int newEnough) {
        if (newLeast < 1 || newLeast > 100 || newEnough < 1 || newEnough > 10) {
            return done(1);
        }
        least = newLeast;
        enough = newEnough;
        return done(0);
    }

    private List<Integer> bothOf(int a, int b) {
        List<Integer> both = new ArrayList<>();
        for (int day = 0; day < 240; day++) {
            if (eyes.get(a)[day] != null && eyes.get(b)[day] != null) {
                both.add(day);
            }
        }
        return both;
    }

    long both(int a, int b) {
        return pair(a, b) ? end(0, bothOf(a, b).size()) : end(1, 0);
    }

    private long factorOf(int a, int b) {
        long own = 0;
        long others = 0;
        List<Integer> both = bothOf(a, b);
        for (int day : both) {
            own += number(eyes.get(a)[day]);
            others += number(eyes.get(b)[day]);
        }
        if (both.size() < least || own == 0 || others == 0) {
            return -1;
        }
        long factor = others * 1000 / own;
        return factor < 10 || factor > 100000 ? -1 : factor;
    }

    private long orElse(int why, long answer) {
        return answer == -1 ? end(why, 0) : end(0, answer);
    }

    long factor(int a, int b) {
        return pair(a, b) ? orElse(6, factorOf(a, b)) : end(1, 0);
    }

    long middle(int a, int b) {
        if (!pair(a, b)) {
            return end(1, 0);
        }
        List<long[]> all = new ArrayList<>();
        for (int day : bothOf(a, b)) {
            if (number(eyes.get(a)[day]) > 0) {
                all.add(new long[] {number(eyes.get(b)[day]), number(eyes.get(a)[day])});
            }
        }
        if (all.isEmpty()) {
            return end(6, 0);
        }
        all.sort((x, y) -> Long.compare(x[0] * y[1], y[0] * x[1]));
        long[] mid = all.get((all.size() + 1) / 2 - 1);
        return fraction(mid[0], mid[1]);
    }

    /** By the greatest of the least means from a level below to a level above. */
    long step(int a, int b, int groups) {
        if (!pair(a, b) || groups < 0 || groups > 20) {
            return end(1, 0);
        }
        long[] sums = new long[21];
        long[] counts = new long[21];
        for (int day : bothOf(a, b)) {
            sums[eyes.get(a)[day][0]] += eyes.get(b)[day][0];
            counts[eyes.get(a)[day][0]]++;
        }
        int level = groups;
        while (level >= 0 && counts[level] == 0) {
            level--;
        }
        if (level < 0) {
            return end(6, 0);
        }
        long[] best = null;
        for (int low = 0; low <= level; low++) {
            long[] worst = counts[low] == 0 ? null : leastMean(sums, counts, low, level);
            if (worst != null && (best == null || worst[0] * best[1] > best[0] * worst[1])) {
                best = worst;
            }
        }
        return fraction(best[0], best[1]);
    }

    private static long[] leastMean(long[] sums, long[] counts, int low, int level) {
        long[] worst = null;
        for (int up = level; up <= 20; up++) {
            long sum = 0;
            long count = 0;
            for (int k = low; k <= up; k++) {
                sum += sums[k];
                count += counts[k];
            }
            if (worst == null || sum * worst[1] < worst[0] * count) {
                worst = new long[] {sum, count};
            }
        }
        return worst;
    }

    long blind(int a, int b) {
        if (!pair(a, b)) {
            return end(1, 0);
        }
        List<Integer> both = bothOf(a, b);
        if (both.isEmpty()) {
            return end(6, 0);
        }
        for (int s = 0; ; s++) {
            int more = 0;
            for (int day : both) {
                more += eyes.get(b)[day][0] > s ? 1 : 0;
                more -= eyes.get(a)[day][0] > 0 ? 1 : 0;
            }
            if (more <= 0) {
                return end(0, s);
            }
        }
    }

    long active(int eye, int from, int to) {
        if (!eye(eye) || !dayIs(from) || !dayIs(to) || from > to) {
            return end(1, 0);
        }
        int all = 0;
        int busy = 0;
        for (int day = from; day <= to; day++) {
            int[] pair = eyes.get(eye)[day];
            all += pair == null ? 0 : 1;
            busy += pair == null || pair[0] == 0 ? 0 : 1;
        }
        return all == 0 ? end(5, 0) : fraction(busy, all);
    }

    /** Tries every way without an EYE twice; the ways come by the numbers of the EYES. */
    private List<Integer> chainOf(int eye) {
        List<List<Integer>> ways = new ArrayList<>();
        long[][] factors = new long[eyes.size()][eyes.size()];
        for (int a = 0; a < eyes.size(); a++) {
            for (int b = 0; b < eyes.size(); b++) {
                factors[a][b] = a == b ? -1 : factorOf(a, b);
            }
        }
        List<Integer> start = new ArrayList<>();
        start.add(eye);
        follow(start, factors, ways);
        List<Integer> best = null;
        for (List<Integer> way : ways) {
            if (best == null || way.size() < best.size()
                    || way.size() == best.size() && leastBoth(way) > leastBoth(best)) {
                best = way;
            }
        }
        return best;
    }

    private void follow(List<Integer> way, long[][] factors, List<List<Integer>> ways) {
        int last = way.get(way.size() - 1);
        if (last == 0) {
            ways.add(new ArrayList<>(way));
            return;
        }
        for (int next = 0; next < eyes.size(); next++) {
            if (!way.contains(next) && factors[last][next] != -1) {
                way.add(next);
                follow(way, factors, ways);
                way.remove(way.size() - 1);
            }
        }
    }

    private int leastBoth(List<Integer> way) {
        int found = Integer.MAX_VALUE;
        for (int k = 1; k < way.size(); k++) {
            found = Math.min(found, bothOf(way.get(k - 1), way.get(k)).size());
        }
        return found;
    }

    long chain(int eye, int k) {
        if (!eye(eye)) {
            return end(1, 0);
        }
        List<Integer> way = chainOf(eye);
        return way == null || k < 0 || k >= way.size() ? end(6, 0) : end(0, way.get(k));
    }

    private long weightOf(int eye) {
        List<Integer> way = chainOf(eye);
        if (way == null) {
            return -1;
        }
        long weight = 1000;
        for (int k = way.size() - 1; k > 0; k--) {
            weight = Math.min(1000000, weight * factorOf(way.get(k - 1), way.get(k)) / 1000);
        }
        return weight;
    }

    long weight(int eye) {
        return eye(eye) ? orElse(6, weightOf(eye)) : end(1, 0);
    }

    long loop(int a, int b, int c) {
        if (!pair(a, b) || !pair(b, c) || !pair(c, a)) {
            return end(1, 0);
        }
        long x = factorOf(a, b);
        long y = factorOf(b, c);
        long z = factorOf(c, a);
        return x == -1 || y == -1 || z == -1 ? end(6, 0) : end(0, x * y * z / 1000000);
    }

    private long[] allWeights() {
        long[] weights = new long[eyes.size()];
        for (int eye = 0; eye < weights.length; eye++) {
            weights[eye] = weightOf(eye);
        }
        return weights;
    }

    private long dayOf(int day, long[] weights) {
        long sum = 0;
        int many = 0;
        for (int eye = 0; eye < weights.length; eye++) {
            if (eyes.get(eye)[day] != null && weights[eye] != -1) {
                sum += number(eyes.get(eye)[day]) * weights[eye];
                many++;
            }
        }
        return many == 0 ? -1 : sum / many;
    }

    long day(int day) {
        return dayIs(day) ? orElse(5, dayOf(day, allWeights())) : end(1, 0);
    }

    private long monthOf(int month, long[] weights) {
        long sum = 0;
        int many = 0;
        for (int day = 10 * month; day <= 10 * month + 9; day++) {
            long value = dayOf(day, weights);
            sum += value == -1 ? 0 : value;
            many += value == -1 ? 0 : 1;
        }
        return many < enough ? -1 : sum / many;
    }

    long month(int month) {
        return month < 0 || month > 23 ? end(1, 0) : orElse(5, monthOf(month, allWeights()));
    }

    private long smoothOf(int month, int w, long[] weights) {
        if (monthOf(month, weights) == -1) {
            return -1;
        }
        long sum = 0;
        int many = 0;
        for (int near = 0; near < 24; near++) {
            long value = 2 * Math.abs(near - month) <= w - 1 ? monthOf(near, weights) : -1;
            sum += value == -1 ? 0 : value;
            many += value == -1 ? 0 : 1;
        }
        return sum / many;
    }

    private static boolean width(int w) {
        return w == 1 || w == 3 || w == 5 || w == 7;
    }

    long smooth(int month, int w) {
        if (month < 0 || month > 23 || !width(w)) {
            return end(1, 0);
        }
        return orElse(5, smoothOf(month, w, allWeights()));
    }

    long turn(int k, int w, int r, boolean high) {
        if (!width(w) || r < 1 || r > 8) {
            return end(1, 0);
        }
        long[] weights = allWeights();
        long[] smooths = new long[24];
        for (int month = 0; month < 24; month++) {
            smooths[month] = smoothOf(month, w, weights);
        }
        List<Integer> turns = new ArrayList<>();
        for (int month = 0; month < 24; month++) {
            boolean is = smooths[month] != -1;
            for (int away = 1; away <= r; away++) {
                if (month - away >= 0 && smooths[month - away] != -1) {
                    long ahead = smooths[month - away];
                    is &= high ? ahead < smooths[month] : ahead > smooths[month];
                }
                if (month + away < 24 && smooths[month + away] != -1) {
                    long behind = smooths[month + away];
                    is &= high ? behind <= smooths[month] : behind >= smooths[month];
                }
            }
            if (is) {
                turns.add(month);
            }
        }
        return k < 0 || k >= turns.size() ? end(6, 0) : end(0, turns.get(k));
    }

    long change(int month, int eye) {
        if (month < 0 || month > 23 || !eye(eye) || eye == 0) {
            return end(1, 0);
        }
        long with = monthOf(month, allWeights());
        int[][] kept = eyes.set(eye, new int[240][]);
        long without = monthOf(month, allWeights());
        eyes.set(eye, kept);
        return with == -1 || without == -1 ? end(5, 0) : end(0, with - without);
    }
}
