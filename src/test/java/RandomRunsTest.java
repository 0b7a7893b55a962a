import java.util.ArrayList;
import java.util.List;
import java.util.Random;

/** All promises together: runs of 512 calls, each answer held against the plain reading's. */
public final class RandomRunsTest {
    private static final int RUNS = 3000;
    private static final int CALLS = 512;
    private static final int[] WILD = {-1, -2, -3, 15, 16, 100, 101, 300, Integer.MAX_VALUE, Integer.MIN_VALUE};

    private final Random random;
    private final MaypoleGreen g = new MaypoleGreen();
    private final PlainGreen plain = new PlainGreen();
    private final List<String> calls = new ArrayList<>();
    /** How often, in a hundred, a number is wild. */
    private final int wild;

    private RandomRunsTest(long seed) {
        random = new Random(seed);
        wild = random.nextInt(3) == 0 ? 12 : 2;
    }

    public static void main(String[] args) {
        for (int run = 0; run < RUNS && Check.wrongSoFar() == 0; run++) {
            new RandomRunsTest(run).run();
        }
        Check.finish("RandomRunsTest");
    }

    private void run() {
        if (random.nextInt(8) > 0) {
            settle();
        }
        while (calls.size() < CALLS && Check.wrongSoFar() == 0) {
            one(random.nextInt(100));
        }
        if (Check.wrongSoFar() != 0) {
            System.out.println("the run: " + calls);
        }
    }

    private void due(String call, int got, int want) {
        calls.add(call);
        Check.due(call, got, want);
    }

    /** A number below a bound, seldom a wild one. */
    private int below(int bound) {
        return random.nextInt(100) < wild ? WILD[random.nextInt(WILD.length)] : random.nextInt(bound);
    }

    private int from(int least, int most) {
        int v = below(most - least + 1);
        return v >= 0 && v <= most - least ? v + least : v;
    }

    private void settle() {
        int n = 3 + random.nextInt(random.nextInt(3) == 0 ? 7 : 5);
        for (int i = 0; i < n + 2; i++) {
            person(random.nextInt(4));
        }
        due("ring(" + n + ")", g.ring(n), plain.ring(n));
        for (int i = 0; i < n; i++) {
            stand(i, i);
            ribbon(i, random.nextInt(8), random.nextInt(4) == 0 ? 20 + random.nextInt(60) : 99999 >> random.nextInt(10));
        }
        if (random.nextBoolean()) {
            begin();
        }
    }

    private void person(int kind) {
        int reach = from(1, 20);
        int pace = from(1, 9);
        due("person(" + kind + ", " + reach + ", " + pace + ")", g.person(kind, reach, pace),
            plain.person(kind, reach, pace));
    }

    private void stand(int place, int person) {
        due("stand(" + place + ", " + person + ")", g.stand(place, person), plain.stand(place, person));
    }

    private void ribbon(int place, int colour, int length) {
        due("ribbon(" + place + ", " + colour + ", " + length + ")", g.ribbon(place, colour, length),
            plain.ribbon(place, colour, length));
    }

    private void begin() {
        due("begin()", g.begin(), plain.begin());
    }

    private void one(int sort) {
        if (sort < 12) {
            ringCalls(random.nextInt(24));
        } else if (sort < 40) {
            stepCalls(random.nextInt(9));
        } else if (sort < 56) {
            clothCalls(random.nextInt(9));
        } else if (sort < 66) {
            formCalls(random.nextInt(2));
        } else if (sort < 82) {
            figureCalls(random.nextInt(7));
        } else if (sort < 90) {
            orderCalls(random.nextInt(3));
        } else {
            actAndTapeCalls(random.nextInt(9));
        }
    }

    private void ringCalls(int call) {
        int n = plain.count(1);
        if (call == 0) {
            int v = from(2, 10);
            due("ring(" + v + ")", g.ring(v), plain.ring(v));
        } else if (call == 1) {
            due("end()", g.end(), plain.end());
        } else if (call < 5) {
            begin();
        } else if (call < 8) {
            person(below(5));
        } else if (call < 13) {
            stand(below(n + 1), below(plain.count(0) + 1));
        } else if (call < 16) {
            ribbon(below(n + 1), below(9), random.nextInt(4) == 0 ? below(60) : below(100001));
        } else {
            int place = below(n + 1);
            int what = below(5);
            due("at(" + place + ", " + what + ")", g.at(place, what), plain.at(place, what));
        }
    }

    private void stepCalls(int call) {
        int n = plain.count(1);
        if (call < 4) {
            int p = below(n + 1);
            int how = random.nextInt(20) == 0 ? 2 : below(2);
            due("pass(" + p + ", " + how + ")", g.pass(p, how), plain.pass(p, how));
        } else if (call < 6) {
            int how = random.nextInt(20) == 0 ? 2 : below(2);
            due("walk(" + how + ")", g.walk(how), plain.walk(how));
        } else if (call == 6) {
            due("girth()", g.girth(), plain.girth());
        } else if (call == 7) {
            int i = below(plain.count(2) + 2);
            due("step(" + i + ")", g.step(i), plain.step(i));
        } else {
            int figure = below(plain.count(3) + 1);
            due("dance(" + figure + ")", g.dance(figure), plain.dance(figure));
        }
    }

    private void clothCalls(int call) {
        int n = plain.count(1);
        if (call == 0) {
            due("rows()", g.rows(), plain.rows());
        } else if (call < 4) {
            int row = below(plain.rows() + 1);
            int place = below(n + 1);
            int what = below(4);
            due("cloth(" + row + ", " + place + ", " + what + ")", g.cloth(row, place, what),
                plain.cloth(row, place, what));
        } else if (call == 4) {
            due("beat()", g.beat(), plain.beat());
        } else if (call < 7) {
            int row = below(random.nextInt(10) == 0 ? 101 : plain.rows() + 1);
            int place = below(n + 1);
            int colour = below(9);
            due("picture(" + row + ", " + place + ", " + colour + ")", g.picture(row, place, colour),
                plain.picture(row, place, colour));
        } else if (call == 7) {
            int c = below(6);
            int what = from(-1, n);
            due("colours(" + c + ", " + what + ")", g.colours(c, what), plain.colours(c, what));
        } else if (random.nextInt(12) == 0) {
            due("pictureless()", g.pictureless(), plain.pictureless());
        } else {
            due("wrong()", g.wrong(), plain.wrong());
        }
    }

    private void formCalls(int call) {
        int a = from(-1, plain.count(3));
        if (call == 0) {
            int what = from(-2, 30);
            due("form(" + a + ", " + what + ")", g.form(a, what), plain.form(a, what));
        } else {
            int b = from(-1, plain.count(3));
            due("akin(" + a + ", " + b + ")", g.akin(a, b), plain.akin(a, b));
        }
    }

    private void figureCalls(int call) {
        int figure = below(plain.count(3) + 1);
        if (call < 2) {
            feed(randomText(0));
            due("figure()", g.figure(), plain.figure());
        } else if (call == 2) {
            int bytes = random.nextInt();
            int n = random.nextInt(10) == 0 ? below(6) : 0;
            due("feed(" + bytes + ", " + n + ")", g.feed(bytes, n), plain.feed(bytes, n));
        } else if (call == 3) {
            int i = from(-1, 30);
            due("told(" + figure + ", " + i + ")", g.told(figure, i), plain.told(figure, i));
        } else if (call == 4) {
            due("right(" + figure + ")", g.right(figure), plain.right(figure));
        } else {
            int i = from(-1, 6);
            due("slips(" + figure + ", " + i + ")", g.slips(figure, i), plain.slips(figure, i));
        }
    }

    private void feed(String text) {
        for (int i = 0; i < text.length(); i += 4) {
            int bytes = random.nextInt();
            int n = Math.min(4, text.length() - i);
            for (int j = 0; j < n; j++) {
                bytes = bytes << 8 | text.charAt(i + j);
            }
            due("feed(" + bytes + ", " + n + ")", g.feed(bytes, n), plain.feed(bytes, n));
        }
    }

    private String randomText(int depth) {
        StringBuilder text = new StringBuilder();
        int items = 1 + random.nextInt(depth == 0 ? 5 : 2);
        int n = Math.max(1, plain.count(1));
        for (int i = 0; i < items; i++) {
            int sort = random.nextInt(20);
            if (sort < 9) {
                text.append(random.nextInt(25) == 0 ? 9 : random.nextInt(n)).append(random.nextBoolean() ? '<' : '>');
            } else if (sort < 13) {
                text.append(random.nextBoolean() ? 'w' : 'v');
            } else if (sort < 15) {
                text.append((char) ('A' + random.nextInt(plain.count(3) + (random.nextInt(9) == 0 ? 1 : 0) + 1) - 0));
            } else if (sort < 19 && depth < 5) {
                text.append('(').append(randomText(depth + 1)).append(')');
                text.append(random.nextInt(3) == 0 ? '-' : (char) ('2' + random.nextInt(random.nextInt(3) == 0 ? 8 : 2)));
            } else if (random.nextInt(6) == 0) {
                text.append((char) random.nextInt(256));
            }
        }
        return text.toString();
    }

    private void orderCalls(int call) {
        int n = plain.count(1);
        if (call == 0) {
            if (random.nextInt(3) > 0) {
                tellOrder(n);
            }
            int tape = random.nextInt(3) > 0 ? 0 : below(7);
            int what = from(-1, 5);
            due("fewest(" + tape + ", " + what + ")", g.fewest(tape, what), plain.fewest(tape, what));
            return;
        }
        int bits = randomBits(n);
        if (call == 1) {
            int what = from(-1, n);
            due("set(" + bits + ", " + what + ")", g.set(bits, what), plain.set(bits, what));
        } else {
            int figure = below(plain.count(3) + 1);
            due("spent(" + bits + ", " + figure + ")", g.spent(bits, figure), plain.spent(bits, figure));
        }
    }

    private void tellOrder(int n) {
        due("tape(0, 0, " + n + ")", g.tape(0, 0, n), plain.tape(0, 0, n));
        List<Integer> order = new ArrayList<>();
        for (int i = 0; i < n; i++) {
            order.add(random.nextInt(i + 1), i);
        }
        for (int i = 0; i < n; i++) {
            int v = order.get(i);
            due("item(0, " + i + ", " + v + ")", g.item(0, i, v), plain.item(0, i, v));
        }
    }

    private int randomBits(int n) {
        int bits = 0;
        int people = plain.count(0);
        for (int tries = 0; tries < 60 && Integer.bitCount(bits) < n && people > 0; tries++) {
            bits |= 1 << random.nextInt(people);
        }
        return random.nextInt(15) == 0 ? bits ^ 1 << random.nextInt(32) : bits;
    }

    private void actAndTapeCalls(int call) {
        int tape = below(7);
        int i = below(20);
        int v = random.nextBoolean() ? random.nextInt() : random.nextInt(10);
        if (call == 0) {
            int who = below(plain.count(0) + 1);
            int act = below(4);
            due("act(" + who + ", " + act + ", " + v + ")", g.act(who, act, v), plain.act(who, act, v));
        } else if (call == 1) {
            due("trace(" + i + ")", g.trace(i), plain.trace(i));
        } else if (call == 2) {
            int who = below(plain.count(0) + 1);
            int k = below(6);
            due("taken(" + who + ", " + k + ")", g.taken(who, k), plain.taken(who, k));
        } else if (call == 3) {
            int what = below(9);
            due("count(" + what + ")", g.count(what), plain.count(what));
        } else if (call == 4) {
            int sort = from(-1, 5);
            int n = random.nextInt(6) == 0 ? from(55, 62) : from(-1, 20);
            due("tape(" + tape + ", " + sort + ", " + n + ")", g.tape(tape, sort, n), plain.tape(tape, sort, n));
        } else if (call < 7) {
            due("item(" + tape + ", " + i + ", " + v + ")", g.item(tape, i, v), plain.item(tape, i, v));
        } else if (call == 7) {
            due("read(" + tape + ", " + i + ")", g.read(tape, i), plain.read(tape, i));
        } else {
            int other = random.nextInt(3) == 0 ? tape : below(7);
            int from = below(9);
            int to = below(9);
            int n = below(9);
            due("shift(" + tape + ", " + from + ", " + other + ", " + to + ", " + n + ")",
                g.shift(tape, from, other, to, n), plain.shift(tape, from, other, to, n));
        }
    }
}
