import java.util.ArrayList;
import java.util.List;
import java.util.Random;

/** Promises 31 to 38: ACTS, THE TRACE, counts, TAPES. */
public final class ActsAndTapesTest {
    private static final List<Integer> TRACE = new ArrayList<>();

    public static void main(String[] args) {
        acts();
        actsByJavaItself();
        taken();
        count();
        tape();
        item();
        shiftRefused();
        shiftByCopies();
        Check.finish("ActsAndTapesTest");
    }

    private static void acts() {
        MaypoleGreen g = new MaypoleGreen();
        Check.due("nobody", g.act(0, 0, 5), 0);
        Check.due("no TRACE", g.trace(0), -1);
        g.person(0, 5, 3);
        g.person(3, 7, 2);
        Check.due("a FOOL leads", g.act(1, 1, 1), -((3 + 7 - 2) + (3 + 7)));
        int[] bodies = {41, 30, 11, 40, 10, 40, 10};
        Check.due("bodies", g.count(7), bodies.length);
        for (int i = 0; i < bodies.length; i++) {
            Check.due("body " + i, g.trace(i), bodies[i]);
        }
        Check.due("trace(7)", g.trace(7), -1);
        Check.due("trace(-1)", g.trace(-1), -1);
        Check.due("a DANCER rests", g.act(0, 2, 4), (4 + 5 - 3) ^ 0);
        Check.due("bodies", g.count(7), 3);
        Check.due("the TRACE anew", g.trace(0), 12);
        Check.due("none of the one ahead", g.trace(3), -1);
        Check.due("no act 3", g.act(0, 3, 4), 0);
        Check.due("no TRACE then", g.trace(0), -1);
        Check.due("no TRACE then", g.count(7), 0);
        g.act(0, 0, 1);
        Check.due("one body", g.count(7), 1);
        Check.due("no PERSON 2", g.act(2, 0, 4), 0);
        Check.due("no TRACE then", g.count(7), 0);
        g.act(0, 0, 1);
        Check.due("no act -1", g.act(0, -1, 4), 0);
        Check.due("no TRACE then", g.count(7), 0);
        g.act(0, 0, 1);
        Check.due("no PERSON -1", g.act(-1, 0, 4), 0);
        Check.due("no TRACE then", g.trace(0), -1);
        Check.due("wrapping", g.act(0, 0, Integer.MAX_VALUE), Integer.MIN_VALUE + 4);
    }

    /** The KINDS written out as classes, as the document's words have them. */
    private static class Dancer {
        final int i;
        final int r;
        final int a;

        Dancer(int i, int r, int a) {
            this.i = i;
            this.r = r;
            this.a = a;
        }

        int greets(int x) {
            TRACE.add(10);
            return x + r;
        }

        int leads(int x) {
            TRACE.add(11);
            return greets(x) - a;
        }

        int rests(int x) {
            TRACE.add(12);
            return leads(x) ^ i;
        }
    }

    private static final class Child extends Dancer {
        Child(int i, int r, int a) {
            super(i, r, a);
        }

        @Override
        int greets(int x) {
            TRACE.add(20);
            return super.greets(x) - 4;
        }
    }

    private static class Leader extends Dancer {
        Leader(int i, int r, int a) {
            super(i, r, a);
        }

        @Override
        int leads(int x) {
            TRACE.add(30);
            return super.leads(x) + greets(x);
        }
    }

    private static final class Fool extends Leader {
        Fool(int i, int r, int a) {
            super(i, r, a);
        }

        @Override
        int greets(int x) {
            TRACE.add(40);
            return super.greets(x * 3);
        }

        @Override
        int leads(int x) {
            TRACE.add(41);
            return -super.leads(x);
        }
    }

    private static final class Piper extends Dancer {
        Piper(int i, int r, int a) {
            super(i, r, a);
        }

        @Override
        int rests(int x) {
            TRACE.add(50);
            return leads(x) + super.rests(x - 1);
        }
    }

    private static Dancer made(int kind, int i, int r, int a) {
        switch (kind) {
            case 0: return new Dancer(i, r, a);
            case 1: return new Child(i, r, a);
            case 2: return new Leader(i, r, a);
            case 3: return new Fool(i, r, a);
            default: return new Piper(i, r, a);
        }
    }

    private static void actsByJavaItself() {
        Random random = new Random(29);
        for (int run = 0; run < 60; run++) {
            MaypoleGreen g = new MaypoleGreen();
            for (int i = 0; i < 15; i++) {
                int kind = i % 5;
                int r = 1 + random.nextInt(20);
                int a = 1 + random.nextInt(9);
                g.person(kind, r, a);
                Dancer one = made(kind, i, r, a);
                for (int act = 0; act < 3; act++) {
                    int x = random.nextBoolean() ? random.nextInt() : random.nextInt(40) - 20;
                    TRACE.clear();
                    int due = act == 0 ? one.greets(x) : act == 1 ? one.leads(x) : one.rests(x);
                    Check.due("act " + act + " of KIND " + kind, g.act(i, act, x), due);
                    Check.due("bodies of KIND " + kind, g.count(7), TRACE.size());
                    for (int t = 0; t < TRACE.size(); t++) {
                        Check.due("body " + t + " of KIND " + kind, g.trace(t), TRACE.get(t));
                    }
                    Check.due("none behind", g.trace(TRACE.size()), -1);
                }
            }
        }
    }

    private static void taken() {
        MaypoleGreen g = new MaypoleGreen();
        Check.due("k 5", g.taken(0, 5), -2);
        Check.due("k -1", g.taken(0, -1), -2);
        Check.due("nobody", g.taken(0, 0), -11);
        Check.due("nobody", g.taken(-1, 4), -11);
        for (int kind = 0; kind < 5; kind++) {
            g.person(kind, 1, 1);
        }
        Dancer[] people = new Dancer[5];
        for (int kind = 0; kind < 5; kind++) {
            people[kind] = made(kind, 0, 1, 1);
        }
        Class<?>[] kinds = {Dancer.class, Child.class, Leader.class, Fool.class, Piper.class};
        for (int kind = 0; kind < 5; kind++) {
            for (int k = 0; k < 5; k++) {
                Check.due("KIND " + kind + " for " + k, g.taken(kind, k), kinds[k].isInstance(people[kind]) ? kind : -12);
            }
        }
        Check.due("nobody, bad", g.taken(5, 5), -2);
    }

    private static void count() {
        MaypoleGreen g = Greens.dancing(4, 100);
        g.walk(0);
        g.pass(1, 1);
        Greens.figure(g, "w");
        Greens.figure(g, "v");
        Greens.feed(g, "0<0");
        g.picture(1, 1, 1);
        g.act(0, 1, 1);
        int[] due = {4, 4, 2, 2, 3, 1, 1, 2};
        for (int what = 0; what < due.length; what++) {
            Check.due("count(" + what + ")", g.count(what), due[what]);
        }
        Check.due("count(-1)", g.count(-1), -2);
        Check.due("count(8)", g.count(8), -2);
        g.end();
        Check.due("count(6)", g.count(6), 0);
        Check.due("count(2)", g.count(2), 2);
    }

    private static void tape() {
        MaypoleGreen g = new MaypoleGreen();
        Check.due("tape -1", g.tape(-1, 9, -1), -1);
        Check.due("tape 6", g.tape(6, 0, 0), -1);
        Check.due("sort 5", g.tape(0, 5, -1), -2);
        Check.due("sort -2", g.tape(0, -2, 0), -2);
        Check.due("n 61", g.tape(0, 0, 61), -2);
        Check.due("n -1", g.tape(0, 0, -1), -14);
        Check.due("n MIN", g.tape(0, 4, Integer.MIN_VALUE), -14);
        Check.due("still nothing", g.item(0, 0, 0), -11);
        Check.due("no items", g.tape(0, 0, 0), 1);
        Check.due("no such place", g.item(0, 0, 0), -13);
        Check.due("60", g.tape(5, 4, 60), 1);
        Check.due("the last", g.item(5, 59, 7), 1);
        Check.due("the last", g.read(5, 59), 7);
        Check.due("refused", g.tape(5, 4, -1), -14);
        Check.due("nothing was changed", g.read(5, 59), 7);
        Check.due("anew", g.tape(5, 4, 60), 1);
        Check.due("all 0", g.read(5, 59), 0);
        Check.due("nothing", g.tape(5, -1, -99), 1);
        Check.due("nothing", g.tape(5, -1, 99), 1);
        Check.due("nothing is there", g.read(5, 0), -1000000000);
        Check.due("nothing is there", g.item(5, 0, 0), -11);
        Check.due("again", g.tape(5, 2, 1), 1);
        Check.due("all 0", g.read(5, 0), 0);
    }

    private static void item() {
        MaypoleGreen g = new MaypoleGreen();
        Check.due("tape -1", g.item(-1, 0, 0), -1);
        Check.due("tape 6", g.item(6, 0, 0), -1);
        Check.due("read of tape -1", g.read(-1, 0), -1000000000);
        Check.due("read of tape 6", g.read(6, 0), -1000000000);
        Check.due("read of nothing", g.read(0, 0), -1000000000);
        int[] values = {0, 1, -1, 127, 128, 255, 256, 32767, 32768, 65535, 65536, -129, -32769,
            Integer.MAX_VALUE, Integer.MIN_VALUE, 0x12345678};
        for (int sort = 0; sort < 5; sort++) {
            g.tape(sort, sort, 4);
            Check.due("place 4", g.item(sort, 4, 0), -13);
            Check.due("place -1", g.item(sort, -1, 0), -13);
            Check.due("read of 4", g.read(sort, 4), -1000000000);
            Check.due("read of -1", g.read(sort, -1), -1000000000);
            for (int v : values) {
                int due = sort == 0 ? (byte) v : sort == 1 ? (short) v : sort == 2 ? v
                    : sort == 3 ? (v != 0 ? 1 : 0) : (char) v;
                Check.due("item of sort " + sort, g.item(sort, 3, v), 1);
                Check.due(v + " in sort " + sort, g.read(sort, 3), due);
                Check.due("the one ahead", g.read(sort, 2), 0);
            }
        }
    }

    private static void shiftRefused() {
        MaypoleGreen g = new MaypoleGreen();
        Check.due("tape -1", g.shift(-1, 0, 0, 0, 0), -1);
        Check.due("tape 6", g.shift(0, 0, 6, 0, 0), -1);
        Check.due("nothing", g.shift(0, 0, 0, 0, 0), -11);
        g.tape(0, 0, 5);
        g.tape(1, 1, 5);
        g.tape(2, 0, 3);
        Check.due("nothing there", g.shift(0, 0, 3, 0, -1), -11);
        Check.due("nothing there", g.shift(3, 0, 0, 0, 0), -11);
        Check.due("unlike", g.shift(0, -1, 1, 0, 0), -12);
        int max = Integer.MAX_VALUE;
        int min = Integer.MIN_VALUE;
        int[][] beyond = {{-1, 0, 1}, {0, -1, 1}, {0, 0, -1}, {5, 0, 1}, {0, 3, 1}, {0, 0, 4}, {3, 0, 3}, {0, 1, 3},
            {6, 0, 0}, {0, 4, 0}, {max, 0, max}, {0, max, 1}, {0, 0, max}, {min, 0, 1}, {0, min, 1}, {0, 0, min},
            {min, min, min}, {max, max, max}, {1, 1, max}, {min, 0, max}};
        for (int[] b : beyond) {
            Check.due("shift of " + b[0] + " to " + b[1] + ", " + b[2], g.shift(0, b[0], 2, b[1], b[2]), -13);
        }
        Check.due("none, at the ends", g.shift(0, 5, 2, 3, 0), 0);
        Check.due("all", g.shift(0, 2, 2, 0, 3), 3);
    }

    private static void shiftByCopies() {
        Random random = new Random(31);
        for (int run = 0; run < 200; run++) {
            MaypoleGreen g = new MaypoleGreen();
            int sort = random.nextInt(5);
            int[] length = {1 + random.nextInt(20), 1 + random.nextInt(20)};
            int[][] rows = new int[2][];
            for (int t = 0; t < 2; t++) {
                g.tape(t, sort, length[t]);
                rows[t] = new int[length[t]];
                for (int i = 0; i < length[t]; i++) {
                    g.item(t, i, random.nextInt());
                    rows[t][i] = g.read(t, i);
                }
            }
            int from = random.nextInt(2);
            int to = random.nextInt(2);
            int n = random.nextInt(Math.min(length[from], length[to]) + 1);
            int i = random.nextInt(length[from] - n + 1);
            int j = random.nextInt(length[to] - n + 1);
            Check.due("shift", g.shift(from, i, to, j, n), n);
            int[] before = rows[from].clone();
            for (int k = 0; k < n; k++) {
                rows[to][j + k] = before[i + k];
            }
            for (int t = 0; t < 2; t++) {
                for (int k = 0; k < length[t]; k++) {
                    Check.due("item " + k + " behind shift", g.read(t, k), rows[t][k]);
                }
            }
        }
    }
}
