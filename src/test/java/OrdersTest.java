import java.util.ArrayList;
import java.util.HashMap;
import java.util.List;
import java.util.Map;
import java.util.Random;

/** Promises 28 to 30: FEWEST, SET, SPENT. */
public final class OrdersTest {
    public static void main(String[] args) {
        fewestRefused();
        fewestInADance();
        for (int n = 3; n <= 7; n++) {
            fewestOfAllOrders(n);
        }
        setRefused();
        setByAllRows();
        spentRefused();
        spentByMoving();
        Check.finish("OrdersTest");
    }

    private static void fewestRefused() {
        MaypoleGreen g = new MaypoleGreen();
        Check.due("no tape 6", g.fewest(6, -1), -1);
        Check.due("no tape -1", g.fewest(-1, -1), -1);
        Check.due("what -2", g.fewest(0, -2), -1);
        Check.due("no RING", g.fewest(0, -1), -3);
        g.ring(8);
        Check.due("n above 7", g.fewest(0, -1), -3);
        g.ring(3);
        Check.due("nothing", g.fewest(0, -1), -11);
        for (int sort = 1; sort <= 4; sort++) {
            g.tape(0, sort, 2);
            Check.due("another sort", g.fewest(0, -1), -12);
        }
        g.tape(0, 0, 2);
        Check.due("fewer", g.fewest(0, -1), -13);
        g.tape(0, 0, 3);
        Check.due("not each once", g.fewest(0, -1), -2);
        Check.due("not each once, and no such i", g.fewest(0, 99), -2);
        tell(g, 0, 0, 1, 3);
        Check.due("none such", g.fewest(0, -1), -2);
        tell(g, 0, 0, 1, -1);
        Check.due("none such", g.fewest(0, -1), -2);
        tell(g, 0, 0, 1, 2);
        Check.due("as it is", g.fewest(0, -1), 0);
        Check.due("no such i", g.fewest(0, 0), -1);
        g.tape(5, 0, 60);
        tell(g, 5, 1, 0, 2, 9);
        Check.due("a longer tape", g.fewest(5, -1), 1);
        Check.due("a longer tape", g.fewest(5, 0), 0);
        Check.due("no such i", g.fewest(5, 1), -1);
    }

    private static void tell(MaypoleGreen g, int tape, int... order) {
        for (int i = 0; i < order.length; i++) {
            g.item(tape, i, order[i]);
        }
    }

    private static void fewestInADance() {
        MaypoleGreen g = Greens.dancing(5, 500);
        g.tape(1, 0, 5);
        tell(g, 1, 0, 1, 2, 3, 4);
        g.walk(0);
        Check.due("a round back", g.fewest(1, -1), 4);
        Check.due("its first", g.fewest(1, 0), 0);
        tell(g, 1, 4, 0, 1, 2, 3);
        Check.due("as it is", g.fewest(1, -1), 0);
        g.pass(4, 0);
        Check.due("one", g.fewest(1, -1), 1);
        Check.due("one", g.fewest(1, 0), 4);
        g.end();
        tell(g, 1, 0, 1, 2, 3, 4);
        Check.due("RIBBONS are their PLACES' now", g.fewest(1, -1), 0);
    }

    /** Every order of n, each found from the sorted one by all rows of PASSES, the shorter ones first. */
    private static void fewestOfAllOrders(int n) {
        Map<String, Integer> far = new HashMap<>();
        List<int[]> queue = new ArrayList<>();
        int[] sorted = new int[n];
        for (int i = 0; i < n; i++) {
            sorted[i] = i;
        }
        far.put(key(sorted), 0);
        queue.add(sorted);
        for (int at = 0; at < queue.size(); at++) {
            int[] one = queue.get(at);
            for (int p = 0; p < n; p++) {
                int[] next = swapped(one, p);
                if (!far.containsKey(key(next))) {
                    far.put(key(next), far.get(key(one)) + 1);
                    queue.add(next);
                }
            }
        }
        MaypoleGreen g = new MaypoleGreen();
        g.ring(n);
        g.tape(0, 0, n);
        for (int[] told : queue) {
            tell(g, 0, told);
            int left = far.get(key(told));
            Check.due("fewest to " + key(told), g.fewest(0, -1), left);
            // where what stands at a place must come: the told order turned inside out
            int[] row = new int[n];
            for (int i = 0; i < n; i++) {
                row[told[i]] = i;
            }
            for (int i = 0; left > 0; i++) {
                left--;
                int p = 0;
                while (far.get(key(swapped(row, p))) != left) {
                    p++;
                }
                Check.due("PASS " + i + " to " + key(told), g.fewest(0, i), p);
                row = swapped(row, p);
            }
        }
        Check.due("all orders", queue.size(), new int[] {0, 0, 0, 6, 24, 120, 720, 5040}[n]);
    }

    private static int[] swapped(int[] row, int p) {
        int[] next = row.clone();
        int q = (p + 1) % row.length;
        next[p] = row[q];
        next[q] = row[p];
        return next;
    }

    private static String key(int[] row) {
        StringBuilder key = new StringBuilder();
        for (int i : row) {
            key.append(i);
        }
        return key.toString();
    }

    private static void setRefused() {
        MaypoleGreen g = new MaypoleGreen();
        Check.due("no RING", g.set(0, -1), -3);
        g.ring(8);
        Check.due("n above 7", g.set(0, 99), -3);
        g.ring(3);
        for (int i = 0; i < 14; i++) {
            g.person(0, 5, 5);
        }
        Check.due("bits of none", g.set(1 << 14 | 3, -1), -2);
        g.person(4, 5, 5);
        Check.due("a PIPER", g.set(1 << 14 | 3, -1), -2);
        Check.due("bits of none", g.set(1 << 15 | 3, -1), -2);
        Check.due("bits of none", g.set(1 << 31 | 3, -1), -2);
        Check.due("bits of none", g.set(-1, -1), -2);
        Check.due("too few", g.set(3, -1), -2);
        Check.due("too few, and no such what", g.set(3, 9), -2);
        Check.due("too many", g.set(15, -1), -2);
        Check.due("what -2", g.set(7, -2), -1);
        Check.due("what 3", g.set(7, 3), -1);
        Check.due("the sum", g.set(7, -1), 0);
        Check.due("the last of them", g.set(7 << 11, 2), 13);
        Check.due("by numbers", g.set(7 << 11, 0), 11);
    }

    private static void setByAllRows() {
        Random random = new Random(19);
        for (int run = 0; run < 250; run++) {
            int n = 3 + random.nextInt(5);
            int among = n + random.nextInt(3);
            MaypoleGreen g = new MaypoleGreen();
            int[] reach = new int[among];
            int most = random.nextBoolean() ? 20 : 4;
            for (int i = 0; i < among; i++) {
                reach[i] = 1 + random.nextInt(most);
                g.person(random.nextInt(4), reach[i], 1);
            }
            g.ring(n);
            int bits = randomBits(random, n, among);
            int[] best = new int[n + 1];
            best[n] = Integer.MAX_VALUE;
            rows(bits, new int[n], 0, reach, best);
            Check.due("set(" + bits + ", -1)", g.set(bits, -1), best[n]);
            for (int p = 0; p < n; p++) {
                Check.due("set(" + bits + ", " + p + ")", g.set(bits, p), best[p]);
            }
        }
    }

    private static int randomBits(Random random, int n, int among) {
        int bits = 0;
        while (Integer.bitCount(bits) < n) {
            bits |= 1 << random.nextInt(among);
        }
        return bits;
    }

    /** Tries all rows in their order; behind the first of the best: its sum. */
    private static void rows(int bits, int[] row, int place, int[] reach, int[] best) {
        int n = row.length;
        if (place == n) {
            int sum = 0;
            for (int p = 0; p < n; p++) {
                sum += Math.abs(reach[row[p]] - reach[row[(p + 1) % n]]);
            }
            if (sum < best[n]) {
                System.arraycopy(row, 0, best, 0, n);
                best[n] = sum;
            }
            return;
        }
        for (int i = 0; i < reach.length; i++) {
            if ((bits >> i & 1) != 0) {
                row[place] = i;
                rows(bits & ~(1 << i), row, place + 1, reach, best);
            }
        }
    }

    private static void spentRefused() {
        MaypoleGreen g = new MaypoleGreen();
        Check.due("no FIGURE", g.spent(7, 0), -1);
        Greens.figure(g, "0<3<");
        Greens.figure(g, "0<w");
        Check.due("no FIGURE 2", g.spent(7, 2), -1);
        Check.due("THE DANCE is no FIGURE", g.spent(7, -1), -1);
        Check.due("no RING", g.spent(7, 0), -3);
        g.ring(8);
        Check.due("n above 7", g.spent(255, 1), -3);
        g.ring(3);
        Check.due("bits of none", g.spent(7, 0), -2);
        g.person(0, 1, 1);
        g.person(0, 1, 2);
        g.person(4, 1, 3);
        g.person(1, 1, 4);
        Check.due("a PIPER", g.spent(7, 1), -2);
        Check.due("not so many, and at no PLACE", g.spent(3, 0), -2);
        Check.due("at no PLACE", g.spent(11, 0), -3);
        Check.due("both PACES, then the greatest", g.spent(11, 1), 1 + 2 + 4);
    }

    private static void spentByMoving() {
        Random random = new Random(23);
        for (int run = 0; run < 300; run++) {
            int n = 3 + random.nextInt(5);
            MaypoleGreen g = new MaypoleGreen();
            int[] pace = new int[n + 1];
            for (int i = 0; i <= n; i++) {
                pace[i] = 1 + random.nextInt(9);
                g.person(random.nextInt(4), 1 + random.nextInt(20), pace[i]);
            }
            g.ring(n);
            StringBuilder text = new StringBuilder();
            int length = 1 + random.nextInt(12);
            for (int i = 0; i < length; i++) {
                if (random.nextInt(3) == 0) {
                    text.append(random.nextBoolean() ? 'w' : 'v');
                } else {
                    text.append(random.nextInt(n)).append(random.nextBoolean() ? '<' : '>');
                }
            }
            Greens.figure(g, text.toString());
            int bits = randomBits(random, n, n + 1);
            Check.due("spent in " + text, g.spent(bits, 0), spent(g, n, bits, pace));
        }
    }

    private static int spent(MaypoleGreen g, int n, int bits, int[] pace) {
        List<Integer> round = new ArrayList<>();
        for (int p = 0; p < n; p++) {
            round.add(pace[g.set(bits, p)]);
        }
        int sum = 0;
        for (int step : Greens.told(g, 0)) {
            if (step >= 100) {
                sum += java.util.Collections.max(round);
                java.util.Collections.rotate(round, step == 100 ? 1 : -1);
            } else {
                int p = step / 10;
                sum += round.get(p) + round.get((p + 1) % n);
                java.util.Collections.swap(round, p, (p + 1) % n);
            }
        }
        return sum;
    }
}
