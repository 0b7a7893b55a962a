import java.util.ArrayList;
import java.util.HashSet;
import java.util.List;
import java.util.Random;
import java.util.Set;

/** Promises 20 and 21: THE FORM, AKIN. */
public final class FormTest {
    public static void main(String[] args) {
        refused();
        told();
        ofTheDance();
        akin();
        byAllRewritings();
        longOnes();
        Check.finish("FormTest");
    }

    private static void refused() {
        MaypoleGreen g = new MaypoleGreen();
        Greens.figure(g, "3<");
        Check.due("no RING", g.form(0, -1), -98);
        Check.due("no RING, an i that may be none", g.form(0, 5), -98);
        Check.due("no such FIGURE, no RING", g.form(1, -1), -99);
        Check.due("FIGURE -2, no RING", g.form(-2, -1), -99);
        Check.due("what -3, no RING", g.form(0, -3), -99);
        Check.due("akin, no RING", g.akin(0, -1), -3);
        Check.due("akin, no such, no RING", g.akin(0, 1), -1);
        Check.due("akin, no such, no RING", g.akin(-2, 0), -1);
        g.ring(3);
        Check.due("at no PLACE", g.form(0, -1), -97);
        Check.due("at no PLACE", g.form(0, -2), -97);
        Check.due("at no PLACE", g.form(0, 7), -97);
        Check.due("what -3", g.form(0, -3), -99);
        Check.due("akin", g.akin(0, 0), -3);
        Check.due("akin", g.akin(-1, 0), -3);
        Check.due("akin", g.akin(0, -1), -3);
        Check.due("akin of the empty DANCE", g.akin(-1, -1), 1);
        Check.due("the empty DANCE", g.form(-1, -1), 0);
        Check.due("the empty DANCE", g.form(-1, -2), 0);
        Check.due("the empty DANCE", g.form(-1, 0), -99);
        g.ring(4);
        Check.due("now it is one", g.form(0, -1), 1);
        Check.due("now it is one", g.form(0, 0), 30);
        Check.due("no second", g.form(0, 1), -99);
        Check.due("no such", g.form(0, Integer.MAX_VALUE), -99);
    }

    private static void isForm(int n, String text, int turns, int... passes) {
        MaypoleGreen g = new MaypoleGreen();
        g.ring(n);
        Check.due(text, Greens.figure(g, text), 0);
        Check.due("TURNS of " + text, g.form(0, -2), turns);
        Check.due("PASSES of " + text, g.form(0, -1), passes.length);
        for (int i = 0; i < passes.length; i++) {
            Check.due("PASS " + i + " of " + text + " at " + n, g.form(0, i), passes[i]);
        }
        Check.due("none behind them", g.form(0, passes.length), -99);
    }

    private static void told() {
        isForm(4, "w", 1);
        isForm(4, "vv", -2);
        isForm(4, "0<0>", 0);
        isForm(4, "0<0<", 0, 0, 0);
        isForm(4, "w0<", 1, 30);
        isForm(4, "v3<", -1, 0);
        isForm(3, "vvvvv2>", -5, 11);
        isForm(4, "2<0>", 0, 1, 20);
        isForm(4, "3<0>", 0, 30, 1);
        isForm(4, "3<1>", 0, 11, 30);
        isForm(3, "2<0>2>", 0, 20, 1, 21);
        isForm(5, "2<0>2>", 0, 1);
        isForm(5, "2<0>4<2>", 0, 1, 40);
        isForm(5, "2<1>3<2>", 0, 20, 11, 30, 21);
        isForm(5, "4<2>0<", 0, 21, 40, 0);
        isForm(9, "8<7<5<3<1<", 0, 10, 30, 50, 80, 70);
        isForm(6, "0<2<4<4>2>0>", 0);
        isForm(6, "0<w1>v", 0);
        isForm(4, "(0<1>w2<)-", -1, 11);
        isForm(4, "(0<1>w3<)-", -1, 31, 20, 11);
    }

    private static void ofTheDance() {
        MaypoleGreen g = Greens.dancing(4, 500);
        g.pass(2, 0);
        g.walk(0);
        g.pass(1, 1);
        g.walk(1);
        Check.due("PASSES", g.form(-1, -1), 2);
        Check.due("first", g.form(-1, 0), 1);
        Check.due("second", g.form(-1, 1), 20);
        g.pass(2, 1);
        Check.due("PASSES", g.form(-1, -1), 1);
        Greens.figure(g, "0>");
        Greens.figure(g, "w0>");
        Greens.figure(g, "w1>v");
        Check.due("akin", g.akin(-1, 0), 1);
        Check.due("akin", g.akin(0, -1), 1);
        Check.due("akin but for TURNS", g.akin(-1, 1), 0);
        Check.due("akin", g.akin(2, -1), 1);
        g.end();
        Check.due("it stays", g.akin(2, -1), 1);
        g.ring(4);
        Check.due("it is gone", g.akin(2, -1), 0);
    }

    private static void akin() {
        MaypoleGreen g = new MaypoleGreen();
        g.ring(5);
        Greens.figure(g, "0<2>");
        Greens.figure(g, "2>0<");
        Greens.figure(g, "0<1>");
        Greens.figure(g, "1>0<");
        Greens.figure(g, "0<2>w");
        Greens.figure(g, "w1<3>");
        Greens.figure(g, "0<2>3<3>");
        Greens.figure(g, "0>2>");
        Check.due("FAR", g.akin(0, 1), 1);
        Check.due("beside one another", g.akin(2, 3), 0);
        Check.due("TURNS", g.akin(0, 4), 0);
        Check.due("moved", g.akin(4, 5), 1);
        Check.due("left out", g.akin(0, 6), 1);
        Check.due("another way", g.akin(0, 7), 0);
        Check.due("itself", g.akin(3, 3), 1);
        Check.due("no such", g.akin(0, 8), -1);
        Check.due("no such", g.akin(8, 0), -1);
    }

    /** The form by all that the rules allow: every row that can be reached, the shortest and least. */
    private static void byAllRewritings() {
        Random random = new Random(3);
        for (int run = 0; run < 1500; run++) {
            int n = 3 + random.nextInt(7);
            int places = 2 + random.nextInt(n - 1);
            int length = 1 + random.nextInt(8);
            StringBuilder text = new StringBuilder();
            List<Integer> row = new ArrayList<>();
            int turns = 0;
            for (int i = 0; i < length; i++) {
                if (random.nextInt(4) == 0) {
                    boolean on = random.nextBoolean();
                    text.append(on ? 'w' : 'v');
                    turns += on ? 1 : -1;
                }
                int p = random.nextInt(places);
                int how = random.nextInt(2);
                text.append((char) ('0' + p)).append(how == 0 ? '<' : '>');
                row.add(10 * (((p - turns) % n + n) % n) + how);
            }
            List<Integer> least = least(row, n);
            int[] want = new int[least.size()];
            for (int i = 0; i < want.length; i++) {
                want[i] = least.get(i);
            }
            isForm(n, text.toString(), turns, want);
        }
    }

    private static List<Integer> least(List<Integer> row, int n) {
        Set<List<Integer>> seen = new HashSet<>();
        List<List<Integer>> queue = new ArrayList<>();
        seen.add(row);
        queue.add(row);
        List<Integer> best = row;
        for (int at = 0; at < queue.size(); at++) {
            List<Integer> one = queue.get(at);
            if (isBetter(one, best)) {
                best = one;
            }
            for (int i = 0; i + 1 < one.size(); i++) {
                List<Integer> next = rewritten(one, i, n);
                if (next != null && seen.add(next)) {
                    queue.add(next);
                }
            }
        }
        return best;
    }

    private static boolean isBetter(List<Integer> one, List<Integer> other) {
        if (one.size() != other.size()) {
            return one.size() < other.size();
        }
        for (int i = 0; i < one.size(); i++) {
            if (!one.get(i).equals(other.get(i))) {
                return one.get(i) < other.get(i);
            }
        }
        return false;
    }

    private static List<Integer> rewritten(List<Integer> row, int i, int n) {
        int a = row.get(i);
        int b = row.get(i + 1);
        int apart = Math.floorMod(a / 10 - b / 10, n);
        List<Integer> next = new ArrayList<>(row);
        if (apart == 0 && a != b) {
            next.remove(i + 1);
            next.remove(i);
            return next;
        }
        if (apart > 1 && apart < n - 1) {
            next.set(i, b);
            next.set(i + 1, a);
            return next;
        }
        return null;
    }

    private static void longOnes() {
        MaypoleGreen g = new MaypoleGreen();
        g.ring(9);
        Greens.figure(g, "(((0<)9)9)3(((4<)9)2)3");
        Check.due("297", g.told(0, -1), 297);
        Check.due("all stay", g.form(0, -1), 297);
        Check.due("the last of 0", g.form(0, 242), 0);
        Check.due("the first of 4", g.form(0, 243), 40);
        Greens.figure(g, "(((0<4>w)5)5)2(((v4<0>)5)5)2");
        Check.due("300", g.told(1, -1), 300);
        Check.due("FREE", g.form(1, -1), 0);
        Check.due("no TURNS", g.form(1, -2), 0);
        Check.due("akin to no STEPS", g.akin(1, -1), 1);
        Greens.figure(g, "(((0<1<2>w)5)5)3");
        Check.due("300", g.told(2, -1), 300);
        Check.due("PASSES", g.form(2, -1), 225);
        Check.due("TURNS", g.form(2, -2), 75);
    }
}
