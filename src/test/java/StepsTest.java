/** Promises 9 to 12: PASSES, WALKS, GIRTH, STEPS. */
public final class StepsTest {
    public static void main(String[] args) {
        pass();
        passRefused();
        walk();
        walkRefused();
        girth();
        fullOfSteps();
        fullOfRows();
        step();
        Check.finish("StepsTest");
    }

    private static void order(MaypoleGreen g, String after, int... ribbons) {
        for (int p = 0; p < ribbons.length; p++) {
            Check.due("the RIBBON at " + p + " after " + after, g.at(p, 3), ribbons[p]);
        }
    }

    private static void left(MaypoleGreen g, String after, int... lengths) {
        for (int p = 0; p < lengths.length; p++) {
            Check.due("LENGTH at " + p + " after " + after, g.at(p, 2), lengths[p]);
        }
    }

    private static void pass() {
        MaypoleGreen g = Greens.dancing(4, 100);
        Check.due("LOW", g.pass(1, 0), 1);
        order(g, "1<", 0, 2, 1, 3);
        left(g, "1<", 100, 98, 99, 100);
        Check.due("HIGH", g.pass(1, 1), 2);
        order(g, "1<1>", 0, 1, 2, 3);
        left(g, "1<1>", 100, 98, 96, 100);
        Check.due("at the last", g.pass(3, 1), 3);
        order(g, "1<1>3>", 3, 1, 2, 0);
        left(g, "1<1>3>", 98, 98, 96, 99);
    }

    private static void passRefused() {
        MaypoleGreen g = Greens.standing(3, 2);
        Check.due("no DANCE", g.pass(0, 0), -3);
        Check.due("no place, no DANCE", g.pass(3, 7), -1);
        Check.due("bad, no DANCE", g.pass(0, 2), -2);
        g.ribbon(1, 0, 1);
        g.begin();
        Check.due("p -1", g.pass(-1, 0), -1);
        Check.due("how -1", g.pass(0, -1), -2);
        Check.due("the other's is too short", g.pass(0, 0), -3);
        left(g, "a refusal", 2, 1, 2);
        Check.due("the short one goes inside", g.pass(0, 1), 1);
        left(g, "0>", 0, 0, 2);
        Check.due("none is left", g.pass(1, 0), -3);
        Check.due("none is left", g.pass(2, 0), -3);
        Check.due("the STEPS", g.count(2), 1);
    }

    private static void walk() {
        MaypoleGreen g = Greens.dancing(5, 100);
        Check.due("ON", g.walk(0), 1);
        order(g, "w", 4, 0, 1, 2, 3);
        left(g, "w", 90, 90, 90, 90, 90);
        Check.due("BACK", g.walk(1), 2);
        order(g, "wv", 0, 1, 2, 3, 4);
        Check.due("BACK", g.walk(1), 3);
        order(g, "wvv", 1, 2, 3, 4, 0);
        Check.due("people go with them", g.at(4, 0), 0);
        Check.due("COLOURS, too", g.at(4, 1), 0);
    }

    private static void walkRefused() {
        MaypoleGreen g = Greens.standing(3, 20);
        Check.due("no DANCE", g.walk(0), -3);
        Check.due("bad, no DANCE", g.walk(2), -2);
        Check.due("bad, no DANCE", g.walk(-1), -2);
        g.ribbon(2, 0, 19);
        g.begin();
        Check.due("once", g.walk(0), 1);
        Check.due("one is too short", g.walk(0), -3);
        left(g, "a refusal", 9, 10, 10);
        Check.due("rows", g.rows(), 1);
    }

    private static void girth() {
        MaypoleGreen g = Greens.dancing(3, 1000);
        int length = 1000;
        for (int row = 0; row < 12; row++) {
            Check.due("GIRTH at " + row + " ROWS", g.girth(), 10 + row / 3);
            length -= 10 + row / 3;
            g.walk(row % 2);
            left(g, row + 1 + " ROWS", length, length, length);
            g.pass(0, 0);
            g.pass(0, 1);
            g.pass(1, 0);
            g.pass(1, 1);
            g.pass(2, 0);
            g.pass(2, 1);
            length = g.at(0, 2);
            Check.due("PASSES all round, each way, take the same of all", g.at(1, 2), length);
        }
        Check.due("GIRTH at 12 ROWS", g.girth(), 14);
        g.end();
        Check.due("GIRTH stays with THE CLOTH", g.girth(), 14);
        g.begin();
        Check.due("GIRTH anew", g.girth(), 10);
    }

    private static void fullOfSteps() {
        MaypoleGreen g = Greens.dancing(3, 99999);
        Greens.figure(g, "(((0<0>)9)8)2");
        Check.due("288 STEPS", g.dance(0), 288);
        for (int i = 288; i < 300; i++) {
            Check.due("one more", g.pass(i % 3, i % 2), i + 1);
        }
        Check.due("no room for a PASS", g.pass(0, 0), -4);
        Check.due("no room for a WALK", g.walk(0), -4);
        Check.due("nor in a FIGURE", g.dance(0), 0);
        Check.due("STEPS", g.count(2), 300);
        Check.due("ROWS", g.rows(), 0);

        MaypoleGreen w = Greens.dancing(3, 99999);
        Greens.figure(w, "(((w0<1>)5)4)5");
        Check.due("300 STEPS, ROWS among them", w.dance(0), 300);
        Check.due("ROWS", w.rows(), 100);
        Check.due("no room for a PASS", w.pass(0, 0), -4);
        Check.due("no room for a WALK", w.walk(0), -4);

        // 300 PASSES take 4 a pair of RIBBON 1: it is too short then, and STATE is named ahead of FULL
        MaypoleGreen s = Greens.dancing(3, 600);
        Greens.figure(s, "(((0<0>)9)8)2");
        Greens.figure(s, "(0<0>)6");
        s.dance(0);
        Check.due("300 STEPS", s.dance(1), 12);
        Check.due("too short, and no room", s.pass(0, 0), -3);
        Check.due("too short, and no room", s.walk(0), -3);
        Check.due("STEPS", s.count(2), 300);
    }

    private static void fullOfRows() {
        MaypoleGreen g = Greens.dancing(3, 99999);
        Greens.figure(g, "((w)9)9(v)9(w)9w");
        Check.due("100 ROWS", g.dance(0), 100);
        Check.due("rows()", g.rows(), 100);
        Check.due("GIRTH", g.girth(), 43);
        Check.due("no room for a ROW", g.walk(1), -4);
        Check.due("room for a PASS", g.pass(0, 0), 101);
        Check.due("rows()", g.rows(), 100);
        Check.due("the last ROW", g.cloth(99, 0, 0) >= 0);
        Check.due("none behind it", g.cloth(100, 0, 0), -1);
    }

    private static void step() {
        MaypoleGreen g = Greens.dancing(9, 500);
        g.pass(8, 1);
        g.pass(0, 0);
        g.walk(0);
        g.walk(1);
        Check.due("step(0)", g.step(0), 81);
        Check.due("step(1)", g.step(1), 0);
        Check.due("step(2)", g.step(2), 100);
        Check.due("step(3)", g.step(3), 101);
        Check.due("step(4)", g.step(4), -1);
        Check.due("step(-1)", g.step(-1), -1);
        Check.due("step(MAX)", g.step(Integer.MAX_VALUE), -1);
    }
}
