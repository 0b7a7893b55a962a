/** Promises 1 to 8: people, the ring, a DANCE's beginning and end. */
public final class PeopleAndRingTest {
    public static void main(String[] args) {
        newObject();
        person();
        ring();
        stand();
        ribbon();
        at();
        beginAndEnd();
        Check.finish("PeopleAndRingTest");
    }

    private static void newObject() {
        MaypoleGreen g = new MaypoleGreen();
        for (int what = 0; what < 8; what++) {
            Check.due("count(" + what + ") of a new object", g.count(what), 0);
        }
        Check.due("rows()", g.rows(), 0);
        Check.due("girth()", g.girth(), 10);
        Check.due("at(0, 0)", g.at(0, 0), -6);
        Check.due("step(0)", g.step(0), -1);
        Check.due("trace(0)", g.trace(0), -1);
        Check.due("wrong()", g.wrong(), 0);
        Check.due("begin()", g.begin(), -3);
        Check.due("end()", g.end(), -3);
        Check.due("pass(0, 0)", g.pass(0, 0), -1);
        Check.due("walk(0)", g.walk(0), -3);
    }

    private static void person() {
        MaypoleGreen g = new MaypoleGreen();
        int[][] bad = {{-1, 1, 1}, {5, 1, 1}, {0, 0, 1}, {0, 21, 1}, {0, 1, 0}, {0, 1, 10},
            {Integer.MIN_VALUE, 1, 1}, {0, Integer.MAX_VALUE, 1}, {0, 1, Integer.MIN_VALUE}};
        for (int[] b : bad) {
            Check.due("a bad person", g.person(b[0], b[1], b[2]), -2);
        }
        for (int i = 0; i < 15; i++) {
            Check.due("person " + i, g.person(i % 5, i % 2 == 0 ? 1 : 20, i % 2 == 0 ? 9 : 1), i);
        }
        Check.due("a 16th", g.person(0, 1, 1), -4);
        Check.due("a bad 16th: BAD is named ahead of FULL", g.person(5, 1, 1), -2);
        Check.due("count(0)", g.count(0), 15);
        g.ring(3);
        Check.due("no 16th to stand", g.stand(0, 15), -1);
        Check.due("no 16th to act", g.act(15, 0, 1), 0);
        Check.due("no 16th to be taken", g.taken(15, 0), -11);
    }

    private static void ring() {
        MaypoleGreen g = new MaypoleGreen();
        Check.due("ring(2)", g.ring(2), -2);
        Check.due("ring(10)", g.ring(10), -2);
        Check.due("ring(MIN)", g.ring(Integer.MIN_VALUE), -2);
        Check.due("count(1)", g.count(1), 0);
        for (int n = 3; n <= 9; n++) {
            Check.due("ring(n)", g.ring(n), 1);
            Check.due("count(1)", g.count(1), n);
            Check.due("the last place", g.at(n - 1, 1), 0);
            Check.due("behind the last", g.at(n, 1), -6);
        }
        MaypoleGreen d = Greens.dancing(3, 500);
        d.walk(0);
        Check.due("ring in a DANCE", d.ring(4), -3);
        Check.due("a bad ring in a DANCE", d.ring(2), -2);
        d.end();
        d.picture(0, 0, 0);
        Check.due("ring again", d.ring(3), 1);
        Check.due("rows()", d.rows(), 0);
        Check.due("STEPS", d.count(2), 0);
        Check.due("THE PICTURE stays", d.count(5), 1);
        for (int p = 0; p < 3; p++) {
            Check.due("nobody", d.at(p, 0), -5);
            Check.due("COLOUR", d.at(p, 1), 0);
            Check.due("LENGTH", d.at(p, 2), 0);
            Check.due("RIBBON", d.at(p, 3), p);
        }
        Check.due("who stood there can stand again", d.stand(2, 0), -5);
    }

    private static void stand() {
        MaypoleGreen g = new MaypoleGreen();
        g.person(0, 5, 5);
        Check.due("no RING", g.stand(0, 0), -1);
        g.ring(3);
        g.person(4, 5, 5);
        g.person(3, 5, 5);
        Check.due("stand(-1, 0)", g.stand(-1, 0), -1);
        Check.due("stand(3, 0)", g.stand(3, 0), -1);
        Check.due("stand(0, -1)", g.stand(0, -1), -1);
        Check.due("stand(0, 3)", g.stand(0, 3), -1);
        Check.due("a PIPER", g.stand(0, 1), -12);
        Check.due("stand(0, 0)", g.stand(0, 0), -5);
        Check.due("again there", g.stand(0, 0), -3);
        Check.due("elsewhere, too", g.stand(1, 0), -3);
        Check.due("another one there", g.stand(0, 2), 0);
        Check.due("who left is free", g.stand(1, 0), -5);
        MaypoleGreen d = Greens.dancing(3, 500);
        d.person(4, 1, 1);
        d.person(0, 1, 1);
        Check.due("in a DANCE", d.stand(0, 4), -3);
        Check.due("a PIPER in a DANCE: STATE is named ahead of CAST", d.stand(0, 3), -3);
        Check.due("no such place in a DANCE", d.stand(3, 4), -1);
    }

    private static void ribbon() {
        MaypoleGreen g = new MaypoleGreen();
        Check.due("no RING", g.ribbon(0, 0, 0), -1);
        g.ring(4);
        Check.due("ribbon(4, 0, 0)", g.ribbon(4, 0, 0), -1);
        Check.due("ribbon(-1, 9, 0)", g.ribbon(-1, 9, 0), -1);
        Check.due("colour -1", g.ribbon(0, -1, 0), -2);
        Check.due("colour 8", g.ribbon(0, 8, 0), -2);
        Check.due("length -1", g.ribbon(0, 0, -1), -2);
        Check.due("length 100000", g.ribbon(0, 0, 100000), -2);
        Check.due("the most", g.ribbon(3, 7, 99999), 1);
        Check.due("COLOUR", g.at(3, 1), 7);
        Check.due("LENGTH", g.at(3, 2), 99999);
        Check.due("the least", g.ribbon(3, 0, 0), 1);
        Check.due("LENGTH", g.at(3, 2), 0);
        MaypoleGreen d = Greens.dancing(3, 500);
        Check.due("in a DANCE", d.ribbon(0, 0, 0), -3);
        Check.due("bad, in a DANCE", d.ribbon(0, 8, 0), -2);
        Check.due("no place, in a DANCE", d.ribbon(3, 8, 0), -1);
    }

    private static void at() {
        MaypoleGreen g = Greens.dancing(4, 100);
        Check.due("at(0, 4)", g.at(0, 4), -6);
        Check.due("at(0, -1)", g.at(0, -1), -6);
        Check.due("at(4, 0)", g.at(4, 0), -6);
        Check.due("at(-1, 0)", g.at(-1, 0), -6);
        g.pass(3, 0);
        Check.due("who came from 0", g.at(3, 0), 0);
        Check.due("its COLOUR", g.at(3, 1), 0);
        Check.due("its LENGTH", g.at(3, 2), 98);
        Check.due("its RIBBON", g.at(3, 3), 0);
        Check.due("who came from 3", g.at(0, 0), 3);
        Check.due("its LENGTH", g.at(0, 2), 99);
        g.end();
        Check.due("the RIBBON is its own PLACE's now", g.at(3, 3), 3);
        Check.due("its LENGTH stays", g.at(3, 2), 98);
        Check.due("its COLOUR stays", g.at(3, 1), 0);
        Check.due("who stands there stays", g.at(3, 0), 0);
    }

    private static void beginAndEnd() {
        MaypoleGreen g = new MaypoleGreen();
        for (int i = 0; i < 3; i++) {
            g.person(0, 1, 1);
        }
        g.ring(3);
        g.stand(0, 0);
        g.stand(1, 1);
        Check.due("a PLACE is not taken", g.begin(), -3);
        g.stand(2, 2);
        g.ribbon(0, 5, 50);
        g.ribbon(1, 6, 50);
        g.ribbon(2, 7, 50);
        Check.due("begin()", g.begin(), 3);
        Check.due("count(6)", g.count(6), 1);
        Check.due("begin again", g.begin(), -3);
        g.pass(0, 0);
        g.walk(0);
        Check.due("end()", g.end(), 2);
        Check.due("count(6)", g.count(6), 0);
        Check.due("end again", g.end(), -3);
        Check.due("STEPS stay", g.step(1), 100);
        Check.due("STEPS stay", g.count(2), 2);
        Check.due("THE CLOTH stays", g.rows(), 1);
        g.ribbon(0, 0, 0);
        g.ribbon(1, 0, 0);
        g.ribbon(2, 0, 0);
        Check.due("with its COLOURS", g.cloth(0, 1, 2), 6);
        Check.due("with its COLOURS", g.cloth(0, 2, 2), 5);
        Check.due("begin() again", g.begin(), 3);
        Check.due("THE CLOTH is empty", g.rows(), 0);
        Check.due("THE DANCE is empty", g.count(2), 0);
        Check.due("THE DANCE is empty", g.step(0), -1);
        Check.due("RIBBONS are called by their PLACES", g.at(1, 3), 1);
        Check.due("end()", g.end(), 0);
        MaypoleGreen nine = Greens.dancing(9, 500);
        nine.walk(1);
        Check.due("end() of nine", nine.end(), 1);
        for (int p = 0; p < 9; p++) {
            Check.due("who is at " + p, nine.at(p, 0), (p + 1) % 9);
            Check.due("the RIBBON at " + p, nine.at(p, 3), p);
        }
    }
}
