import java.util.ArrayList;
import java.util.List;
import java.util.Random;

/** Promises 26 and 27: RIGHT, SLIPS. */
public final class SlipsTest {
    public static void main(String[] args) {
        refused();
        told();
        room();
        lengthsOfTheBeginning();
        byDancingThemAll();
        Check.finish("SlipsTest");
    }

    private static void refused() {
        MaypoleGreen g = Greens.standing(3, 100);
        Check.due("right: no such", g.right(0), -1);
        Check.due("slips: no such", g.slips(0, -1), -1);
        Greens.figure(g, "w");
        Check.due("right: no DANCE", g.right(0), -3);
        Check.due("slips: no DANCE", g.slips(0, -1), -3);
        Check.due("slips: no such i, no DANCE", g.slips(0, -2), -1);
        Check.due("right: no such, no DANCE", g.right(1), -1);
        Check.due("right: THE DANCE is no FIGURE", g.right(-1), -1);
        g.begin();
        Check.due("right: not yet", g.right(0), 0);
        Check.due("slips: it was left out", g.slips(0, -1), 1);
        Check.due("slips: it was left out", g.slips(0, 0), 0);
        Check.due("slips: no other", g.slips(0, 1), -1);
        Check.due("slips: i -2", g.slips(0, -2), -1);
        Check.due("slips: THE DANCE is no FIGURE", g.slips(-1, -1), -1);
        g.dance(0);
        Check.due("right: now", g.right(0), 1);
        Check.due("slips: none", g.slips(0, -1), 0);
        g.end();
        Check.due("right: no DANCE again", g.right(0), -3);
        Check.due("slips: no DANCE again", g.slips(0, 0), -3);
    }

    private static void told() {
        MaypoleGreen g = Greens.standing(4, 100);
        Greens.figure(g, "0<w1>w");
        Greens.figure(g, "0<w1>w9<");
        Greens.figure(g, "9<0<w1>w9<");
        g.begin();
        g.pass(0, 0);
        g.walk(0);
        g.pass(1, 0);
        g.walk(0);
        Check.due("right", g.right(0), 0);
        Check.due("one", g.slips(0, -1), 1);
        Check.due("STEP 2 by its UNDOING", g.slips(0, 0), 21);
        Check.due("a PASS at no PLACE can't be done", g.slips(1, -1), 0);
        g.end();
        g.begin();
        g.pass(0, 0);
        g.walk(0);
        g.pass(1, 1);
        g.walk(0);
        Check.due("right", g.right(0), 1);
        Check.due("not with a PASS at no PLACE", g.right(1), 0);
        Check.due("but if it is left out", g.slips(1, -1), 1);
        Check.due("but if it is left out", g.slips(1, 0), 40);
        Check.due("two such are too many", g.slips(2, -1), 0);
    }

    private static void room() {
        MaypoleGreen g = Greens.standing(3, 99999);
        Greens.figure(g, "(((0<)5)5)9(((0<)5)5)3");
        g.begin();
        Check.due("300 STEPS", g.told(0, -1), 300);
        Check.due("right", g.right(0), 1);
        Check.due("each left out, or undone; none twice", g.slips(0, -1), 600);
        Check.due("the first", g.slips(0, 0), 0);
        Check.due("the second", g.slips(0, 1), 1);
        Check.due("the third", g.slips(0, 2), 10);
        Check.due("the last", g.slips(0, 599), 2991);
        Check.due("none behind it", g.slips(0, 600), -1);

        MaypoleGreen r = Greens.standing(3, 99999);
        Greens.figure(r, "((w)9)9(v)9(w)9w");
        Greens.figure(r, "((w)9)9(v)9(w)9");
        r.begin();
        r.dance(0);
        Check.due("100 ROWS", r.rows(), 100);
        Check.due("right", r.right(0), 1);
        Check.due("right", r.right(1), 0);
        Check.due("one of the last WALKS ON twice", r.slips(1, -1), 9);
        Check.due("the first of these", r.slips(1, 0), 902);
    }

    private static void lengthsOfTheBeginning() {
        MaypoleGreen g = Greens.standing(3, 30);
        Greens.figure(g, "ww");
        Greens.figure(g, "www");
        Greens.figure(g, "wwww");
        g.begin();
        g.walk(0);
        g.walk(0);
        Check.due("too short for another, but it counts from the beginning", g.right(0), 1);
        Check.due("one was left out", g.slips(1, -1), 3);
        Check.due("a 4th can't be done", g.slips(2, -1), 0);
        g.end();
        g.begin();
        Check.due("the second DANCE begins with 10", g.at(0, 2), 10);
        g.walk(0);
        Check.due("one was left out", g.slips(0, -1), 2);
        Check.due("three can't be done", g.slips(1, -1), 0);
    }

    /** Each slip danced from the beginning on a green of its own. */
    private static void byDancingThemAll() {
        Random random = new Random(17);
        int explained = 0;
        for (int run = 0; run < 900; run++) {
            int n = 3 + random.nextInt(4);
            int[] lengths = new int[n];
            for (int p = 0; p < n; p++) {
                lengths[p] = random.nextInt(3) == 0 ? 15 + random.nextInt(40) : 400;
            }
            MaypoleGreen g = green(n, lengths);
            Greens.figure(g, randomFigure(random, n));
            g.begin();
            danceWithASlip(random, g);
            int[] steps = Greens.told(g, 0);
            List<Integer> due = new ArrayList<>();
            for (int k = 0; k < steps.length; k++) {
                for (int slip = 0; slip < 3; slip++) {
                    if (comesSo(g, n, lengths, slipped(steps, k, slip))) {
                        due.add(10 * k + slip);
                    }
                }
            }
            explained += due.size();
            Check.due("right(0)", g.right(0), comesSo(g, n, lengths, steps) ? 1 : 0);
            Check.due("slips(0, -1)", g.slips(0, -1), due.size());
            for (int i = 0; i < due.size(); i++) {
                Check.due("slips(0, " + i + ")", g.slips(0, i), due.get(i));
            }
            Check.due("slips behind the last", g.slips(0, due.size()), -1);
        }
        Check.due("there were many to be found", explained > 500);
    }

    private static MaypoleGreen green(int n, int[] lengths) {
        MaypoleGreen g = Greens.standing(n, 0);
        for (int p = 0; p < n; p++) {
            g.ribbon(p, p, lengths[p]);
        }
        return g;
    }

    private static String randomFigure(Random random, int n) {
        StringBuilder text = new StringBuilder();
        int length = 1 + random.nextInt(9);
        for (int i = 0; i < length; i++) {
            if (random.nextInt(3) == 0) {
                text.append(random.nextBoolean() ? 'w' : 'v');
            } else {
                int p = random.nextInt(20) == 0 ? n : random.nextInt(n);
                text.append(p).append(random.nextBoolean() ? '<' : '>');
            }
        }
        return text.toString();
    }

    private static void danceWithASlip(Random random, MaypoleGreen g) {
        int[] steps = Greens.told(g, 0);
        int[] taken = random.nextInt(4) == 0 ? steps
            : slipped(steps, random.nextInt(steps.length), random.nextInt(3));
        for (int step : taken) {
            doStep(g, step);
        }
    }

    private static int doStep(MaypoleGreen g, int step) {
        return step >= 100 ? g.walk(step - 100) : g.pass(step / 10, step % 10);
    }

    private static int[] slipped(int[] steps, int k, int slip) {
        List<Integer> row = new ArrayList<>();
        for (int i = 0; i < steps.length; i++) {
            if (i != k) {
                row.add(steps[i]);
            } else if (slip == 1) {
                row.add(steps[i] % 2 == 0 ? steps[i] + 1 : steps[i] - 1);
            } else if (slip == 2) {
                row.add(steps[i]);
                row.add(steps[i]);
            }
        }
        int[] all = new int[row.size()];
        for (int i = 0; i < all.length; i++) {
            all[i] = row.get(i);
        }
        return all;
    }

    private static boolean comesSo(MaypoleGreen g, int n, int[] lengths, int[] steps) {
        MaypoleGreen other = green(n, lengths);
        other.begin();
        for (int step : steps) {
            if (doStep(other, step) < 0) {
                return false;
            }
        }
        if (other.rows() != g.rows()) {
            return false;
        }
        for (int row = 0; row < g.rows(); row++) {
            for (int p = 0; p < n; p++) {
                if (other.cloth(row, p, 0) != g.cloth(row, p, 0) || other.cloth(row, p, 1) != g.cloth(row, p, 1)) {
                    return false;
                }
            }
        }
        return true;
    }
}
