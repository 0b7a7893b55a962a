import java.util.Random;

/** Promises 13 to 19: THE CLOTH, BEAT, THE PICTURE, FOR COLOURS. */
public final class ClothTest {
    public static void main(String[] args) {
        rowsAndMarks();
        tops();
        beat();
        beatByAll();
        wholeClothOfNine();
        picture();
        wrong();
        coloursRefused();
        coloursByAll();
        Check.finish("ClothTest");
    }

    private static void rowsAndMarks() {
        MaypoleGreen g = Greens.dancing(4, 500);
        Check.due("rows()", g.rows(), 0);
        Check.due("no ROW", g.cloth(0, 0, 0), -1);
        g.pass(0, 0);
        g.pass(0, 1);
        g.pass(3, 1);
        g.pass(3, 0);
        g.walk(0);
        g.walk(1);
        g.pass(2, 1);
        Check.due("rows()", g.rows(), 2);
        int[] marks = {2, 0, 0, 1};
        for (int p = 0; p < 4; p++) {
            Check.due("the latest MARK at " + p, g.cloth(0, p, 1), marks[p]);
            Check.due("the RIBBON at " + p, g.cloth(0, p, 0), (p + 3) % 4);
            Check.due("no MARK since the ROW ahead", g.cloth(1, p, 1), 0);
            Check.due("BACK", g.cloth(1, p, 0), p);
        }
        g.end();
        g.begin();
        g.walk(0);
        Check.due("no MARK of the DANCE ahead", g.cloth(0, 2, 1), 0);
        g.walk(0);
        Check.due("cloth(2, 0, 0)", g.cloth(2, 0, 0), -1);
        Check.due("cloth(0, 4, 0)", g.cloth(0, 4, 0), -1);
        Check.due("cloth(0, -1, 0)", g.cloth(0, -1, 0), -1);
        Check.due("cloth(0, 0, 3)", g.cloth(0, 0, 3), -1);
        Check.due("cloth(0, 0, -1)", g.cloth(0, 0, -1), -1);
        Check.due("cloth(-1, 0, 0)", g.cloth(-1, 0, 0), -1);
    }

    private static void tops() {
        MaypoleGreen g = Greens.dancing(4, 500);
        // HIGH at 3, LOW at 0: the one ahead of 0 is 3, so 0 keeps its own
        g.pass(3, 1);
        g.pass(0, 0);
        g.pass(1, 0);
        g.walk(0);
        Check.due("MARK 1, the one ahead is 2", g.cloth(0, 0, 2), g.at(0, 1));
        Check.due("MARK 1, the one ahead is 1", g.cloth(0, 1, 2), g.at(2, 1));
        Check.due("MARK 0", g.cloth(0, 2, 2), g.at(2, 1));
        Check.due("MARK 2", g.cloth(0, 3, 2), g.at(3, 1));
        g.pass(3, 0);
        g.walk(0);
        Check.due("MARK 1 at the last: that of PLACE 0", g.cloth(1, 3, 2), g.at(0, 1));
    }

    private static void beat() {
        MaypoleGreen g = Greens.dancing(3, 999);
        Check.due("no ROWS", g.beat(), -3);
        g.walk(0);
        Check.due("one ROW", g.beat(), 1);
        g.walk(0);
        Check.due("two unlike", g.beat(), 2);
        g.walk(0);
        g.walk(0);
        Check.due("a round", g.beat(), 3);
        g.walk(1);
        Check.due("broken", g.beat(), 5);
        g.end();
        Check.due("it stays", g.beat(), 5);
        MaypoleGreen one = Greens.standing(3, 999);
        one.ribbon(1, 0, 999);
        one.ribbon(2, 0, 999);
        Check.due("no CLOTH", one.beat(), -3);
        one.begin();
        for (int i = 0; i < 5; i++) {
            one.walk(i % 2);
            one.pass(i % 3, 0);
            Check.due("one COLOUR", one.beat(), 1);
        }
    }

    private static void wholeClothOfNine() {
        MaypoleGreen g = Greens.dancing(9, 99999);
        Greens.figure(g, "(((w)9)9)-((v)9)2");
        Check.due("99 ROWS", g.dance(0), 99);
        g.walk(0);
        Check.due("100 ROWS", g.rows(), 100);
        Check.due("the last is unlike", g.beat(), leastBeat(g, 9));
        Check.due("the last TOP", g.cloth(99, 8, 2), g.at(8, 1));
        g.end();
        g.ring(4);
        Check.due("no ROWS", g.beat(), -3);
    }

    private static void beatByAll() {
        Random random = new Random(5);
        for (int run = 0; run < 300; run++) {
            int n = 3 + random.nextInt(3);
            MaypoleGreen g = Greens.standing(n, 9999);
            for (int p = 0; p < n; p++) {
                g.ribbon(p, random.nextInt(2), 9999);
            }
            g.begin();
            int walks = 1 + random.nextInt(14);
            int period = 1 + random.nextInt(4);
            for (int i = 0; i < walks; i++) {
                if (i % period == 0) {
                    g.pass(random.nextInt(n), i % 2);
                }
                g.walk(0);
            }
            Check.due("beat()", g.beat(), leastBeat(g, n));
        }
    }

    private static int leastBeat(MaypoleGreen g, int n) {
        int rows = g.rows();
        for (int b = 1; b <= rows; b++) {
            boolean all = true;
            for (int r = b; r < rows; r++) {
                for (int p = 0; p < n; p++) {
                    all &= g.cloth(r, p, 2) == g.cloth(r - b, p, 2);
                }
            }
            if (all) {
                return b;
            }
        }
        return rows;
    }

    private static void picture() {
        MaypoleGreen g = new MaypoleGreen();
        Check.due("row -1", g.picture(-1, 0, 9), -1);
        Check.due("row 100", g.picture(100, 0, 0), -1);
        Check.due("place 9", g.picture(0, 9, 9), -1);
        Check.due("place -1", g.picture(0, -1, 0), -1);
        Check.due("colour 8", g.picture(0, 0, 8), -2);
        Check.due("colour -1", g.picture(0, 0, -1), -2);
        for (int i = 1; i <= 40; i++) {
            Check.due("thing " + i, g.picture(99, 8, 7), i);
        }
        Check.due("a 41st", g.picture(0, 0, 0), -4);
        Check.due("a bad 41st", g.picture(0, 0, 8), -2);
        Check.due("a 41st at no place", g.picture(0, 9, 0), -1);
        Check.due("wrong(): no such ROW", g.wrong(), 40);
        Check.due("pictureless()", g.pictureless(), 40);
        Check.due("pictureless() again", g.pictureless(), 0);
        Check.due("wrong() of none", g.wrong(), 0);
        Check.due("one again", g.picture(0, 0, 0), 1);
    }

    private static void wrong() {
        MaypoleGreen g = Greens.dancing(3, 100);
        g.pass(0, 0);
        g.walk(0);
        for (int p = 0; p < 3; p++) {
            for (int colour = 0; colour < 3; colour++) {
                g.pictureless();
                g.picture(0, p, colour);
                Check.due("wrong()", g.wrong(), g.cloth(0, p, 2) == colour ? 0 : 1);
            }
        }
        g.pictureless();
        g.picture(0, 3, 0);
        g.picture(1, 0, 0);
        g.picture(0, 0, g.cloth(0, 0, 2));
        g.picture(0, 0, g.cloth(0, 0, 2));
        Check.due("a PLACE and a ROW beyond, and two that are right", g.wrong(), 2);
        g.end();
        g.ribbon(0, 7, 1);
        g.ribbon(1, 7, 1);
        g.ribbon(2, 7, 1);
        Check.due("THE CLOTH keeps its COLOURS", g.wrong(), 2);
    }

    private static void coloursRefused() {
        MaypoleGreen g = new MaypoleGreen();
        Check.due("no RING: no such RIBBON", g.colours(2, 0), -1);
        Check.due("no RING", g.colours(2, -1), -3);
        Check.due("no RING, bad", g.colours(0, -1), -2);
        MaypoleGreen six = Greens.dancing(6, 100);
        Check.due("no ROWS", six.colours(2, -1), -3);
        six.walk(0);
        Check.due("c 0", six.colours(0, -1), -2);
        Check.due("c 5", six.colours(5, -1), -2);
        Check.due("what 6", six.colours(5, 6), -1);
        Check.due("what -2", six.colours(2, -2), -1);
        Check.due("no PICTURE", six.colours(4, -1), 0);
        Check.due("no PICTURE", six.colours(4, 5), 0);
        MaypoleGreen seven = Greens.dancing(7, 100);
        seven.walk(0);
        Check.due("n above 6", seven.colours(2, -1), -3);
        Check.due("n above 6", seven.colours(2, 6), -3);
        Check.due("n above 6, c 5", seven.colours(5, 6), -2);
        Check.due("n above 6, what 7", seven.colours(5, 7), -1);
    }

    private static void coloursByAll() {
        Random random = new Random(7);
        for (int run = 0; run < 120; run++) {
            int n = 3 + random.nextInt(4);
            MaypoleGreen g = Greens.dancing(n, 9999);
            for (int i = 0; i < 4; i++) {
                g.pass(random.nextInt(n), random.nextInt(2));
                g.pass(random.nextInt(n), random.nextInt(2));
                g.walk(random.nextInt(2));
            }
            int things = random.nextInt(30);
            int[][] told = new int[things][];
            for (int i = 0; i < things; i++) {
                told[i] = new int[] {random.nextInt(5), random.nextInt(n + 1), random.nextInt(5)};
                g.picture(told[i][0], told[i][1], told[i][2]);
            }
            int c = 1 + random.nextInt(4);
            int[] best = allColours(g, n, c, told);
            Check.due("colours(" + c + ", -1)", g.colours(c, -1), best[n]);
            Check.due("colours(" + c + ", -1) again", g.colours(c, -1), best[n]);
            for (int r = 0; r < n; r++) {
                Check.due("colours(" + c + ", " + r + ")", g.colours(c, r), best[r]);
            }
        }
    }

    /** Tries all rows of COLOURS in their order; behind the first of the best: how many are wrong. */
    private static int[] allColours(MaypoleGreen g, int n, int c, int[][] told) {
        int all = 1;
        for (int i = 0; i < n; i++) {
            all *= c;
        }
        int[] best = new int[n + 1];
        best[n] = Integer.MAX_VALUE;
        int[] row = new int[n + 1];
        for (int number = 0; number < all; number++) {
            int rest = number;
            for (int i = n - 1; i >= 0; i--) {
                row[i] = rest % c;
                rest /= c;
            }
            row[n] = wrongWith(g, n, row, told);
            if (row[n] < best[n]) {
                best = row.clone();
            }
        }
        return best;
    }

    private static int wrongWith(MaypoleGreen g, int n, int[] colours, int[][] told) {
        int wrong = 0;
        for (int[] t : told) {
            if (t[0] >= g.rows() || t[1] >= n) {
                wrong++;
                continue;
            }
            int on = t[1];
            if (g.cloth(t[0], on, 1) == 1 && g.cloth(t[0], (on + n - 1) % n, 1) != 2) {
                on = (on + 1) % n;
            }
            if (colours[g.cloth(t[0], on, 0)] != t[2]) {
                wrong++;
            }
        }
        return wrong;
    }
}
