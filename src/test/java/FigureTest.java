import java.util.ArrayList;
import java.util.List;
import java.util.Random;

/** Promises 22 to 25: THE TEXT, FIGURES, to DANCE one. */
public final class FigureTest {
    private static final String SIGNS = "0123456789<>wvABCJK()()()-2x";

    public static void main(String[] args) {
        feed();
        faults();
        faultsByAllGoingsOn();
        told();
        toldByUnrolling();
        tooLong();
        full();
        dance();
        Check.finish("FigureTest");
    }

    private static void feed() {
        MaypoleGreen g = new MaypoleGreen();
        Check.due("n -1", g.feed(0, -1), -2);
        Check.due("n 5", g.feed(0, 5), -2);
        Check.due("none", g.feed(7, 0), 0);
        // the highest first: "0<2>"
        Check.due("four", g.feed(0x303c323e, 4), 4);
        Check.due("the lowest two alone", g.feed(0x7777323c, 2), 6);
        Check.due("figure()", g.figure(), 0);
        Check.due("step 0", g.told(0, 0), 0);
        Check.due("step 1", g.told(0, 1), 21);
        Check.due("step 2", g.told(0, 2), 20);
        Check.due("no more", g.told(0, -1), 3);
        Check.due("THE TEXT is empty", g.count(4), 0);
        for (int i = 1; i <= 19; i++) {
            Check.due("four more", g.feed(0x77777777, 4), 4 * i);
        }
        Check.due("three", g.feed(0x777777, 3), 79);
        Check.due("two are too many", g.feed(0x7777, 2), -4);
        Check.due("nothing came", g.count(4), 79);
        Check.due("one", g.feed(0x77, 1), 80);
        Check.due("one too many", g.feed(0x77, 1), -4);
        Check.due("none has room", g.feed(0x77, 0), 80);
        Check.due("bad is named ahead", g.feed(0x77, 5), -2);
        Check.due("80 bytes", g.figure(), 1);
        Check.due("80 STEPS", g.told(1, -1), 80);
        g.feed(-1, 4);
        Check.due("bytes that are nothing", g.figure(), -10);
        g.feed(0x77ff, 2);
        Check.due("bytes that are nothing", g.figure(), -11);
    }

    private static void isFault(String text, int place) {
        MaypoleGreen g = new MaypoleGreen();
        Greens.figure(g, "w");
        Greens.figure(g, "v");
        Check.due("the FAULT of " + text, Greens.figure(g, text), -10 - place);
        Check.due("THE TEXT is empty", g.count(4), 0);
        Check.due("no FIGURE came", g.count(3), 2);
    }

    private static void faults() {
        MaypoleGreen old = new MaypoleGreen();
        Greens.figure(old, "0<(w)2");
        Check.due("what an old text had is gone", Greens.figure(old, "0"), -11);
        Check.due("what an old text had is gone", Greens.figure(old, "0<(w)"), -15);
        Check.due("80 bytes, too early", Greens.figure(old, "w".repeat(79) + "0"), -90);
        Check.due("80 bytes, too early", Greens.figure(old, "w".repeat(77) + "(w)"), -90);
        isFault("", 0);
        isFault("0", 1);
        isFault("0w", 1);
        isFault("00<", 1);
        isFault("<", 0);
        isFault("w-", 1);
        isFault("w2", 2);
        isFault("w2w", 2);
        isFault("C", 0);
        isFault("wBAC", 3);
        isFault("K", 0);
        isFault("a", 0);
        isFault("(", 1);
        isFault("()", 1);
        isFault("()2", 1);
        isFault("(w", 2);
        isFault("(w)", 3);
        isFault("(w)0", 3);
        isFault("(w)1", 3);
        isFault("(w)w", 3);
        isFault("(w)22", 5);
        isFault("(w)--", 4);
        isFault(")", 0);
        isFault("w)2", 1);
        isFault("(w)2)2", 4);
        isFault("((w)2", 5);
        isFault("((((w)2)2)2)2(((((w)2)2)2)2)2", 17);
        isFault("(((((", 4);
        isFault("((((0", 5);
        isFault("(((w)2(((w)2", 8);
        isFault("(((w)2((w)2)2)2)2(((((", 21);
    }

    /** A byte is the FAULT if no text that begins so up to it, with it, is right. */
    private static void faultsByAllGoingsOn() {
        Random random = new Random(11);
        for (int run = 0; run < 4000; run++) {
            MaypoleGreen g = new MaypoleGreen();
            int known = random.nextInt(3);
            for (int i = 0; i < known; i++) {
                Greens.figure(g, "w");
            }
            String text = randomText(random);
            int fault = faultOf(text, known);
            int due = fault < 0 ? known : -10 - fault;
            Check.due("figure() of " + text, Greens.figure(g, text), due);
        }
    }

    private static String randomText(Random random) {
        StringBuilder text = new StringBuilder();
        int length = random.nextInt(14);
        for (int i = 0; i < length; i++) {
            if (random.nextInt(3) > 0) {
                String[] good = {"0<", "5>", "w", "v", "A", "(", "(w", "(", ")2", ")-", ")9"};
                text.append(good[random.nextInt(good.length)]);
            } else if (random.nextInt(3) == 0) {
                text.append(SIGNS.charAt(random.nextInt(SIGNS.length())));
            }
        }
        return text.toString();
    }

    private static int faultOf(String text, int known) {
        for (int i = 0; i < text.length(); i++) {
            if (!goesOn(text.substring(0, i + 1), known)) {
                return i;
            }
        }
        return isRight(text, known) ? -1 : text.length();
    }

    private static boolean goesOn(String text, int known) {
        String[] first = {"", "<", "2", "w", "<)2", "2)2", "w)2", ")2"};
        for (String f : first) {
            StringBuilder more = new StringBuilder(text).append(f);
            for (int closed = 0; closed < 6; closed++) {
                if (isRight(more.toString(), known)) {
                    return true;
                }
                more.append(")2");
            }
        }
        return false;
    }

    /** Takes what is an ITEM for one sign, from the inside out, till nothing changes. */
    private static boolean isRight(String text, int known) {
        if (deepest(text) > 4) {
            return false;
        }
        String letters = known == 0 ? "" : "|[A-" + (char) ('A' + known - 1) + "]";
        String now = text.replace('i', '?').replaceAll("[0-9][<>]|w|v" + letters, "i");
        String before = "";
        while (!now.equals(before)) {
            before = now;
            now = now.replaceAll("\\(i+\\)[2-9-]", "i");
        }
        return now.matches("i+");
    }

    private static int deepest(String text) {
        int deep = 0;
        int deepest = 0;
        for (char c : text.toCharArray()) {
            deep += c == '(' ? 1 : c == ')' ? -1 : 0;
            deepest = Math.max(deepest, deep);
        }
        return deepest;
    }

    private static void areSteps(MaypoleGreen g, int figure, int... steps) {
        Check.due("STEPS of " + figure, g.told(figure, -1), steps.length);
        for (int i = 0; i < steps.length; i++) {
            Check.due("STEP " + i + " of " + figure, g.told(figure, i), steps[i]);
        }
        Check.due("none behind", g.told(figure, steps.length), -1);
    }

    private static void told() {
        MaypoleGreen g = new MaypoleGreen();
        Check.due("no such", g.told(0, -1), -1);
        Greens.figure(g, "0<9>wv");
        areSteps(g, 0, 0, 91, 100, 101);
        Greens.figure(g, "(0<9>wv)-");
        areSteps(g, 1, 100, 101, 90, 1);
        Greens.figure(g, "(A(1<)2)-B");
        areSteps(g, 2, 11, 11, 100, 101, 90, 1, 100, 101, 90, 1);
        Greens.figure(g, "((w1>)-)-((w)2v)3");
        areSteps(g, 3, 100, 11, 100, 100, 101, 100, 100, 101, 100, 100, 101);
        Check.due("told(0, -2)", g.told(0, -2), -1);
        Check.due("told(4, 0)", g.told(4, 0), -1);
        Check.due("told(-1, 0)", g.told(-1, 0), -1);
        Check.due("told(-1, -1)", g.told(-1, -1), -1);
    }

    private static void toldByUnrolling() {
        Random random = new Random(13);
        for (int run = 0; run < 400; run++) {
            MaypoleGreen g = new MaypoleGreen();
            List<List<Integer>> known = new ArrayList<>();
            for (int figure = 0; figure < 4; figure++) {
                StringBuilder text = new StringBuilder();
                List<Integer> steps = items(random, text, known, 0);
                if (text.length() > 80) {
                    continue;
                }
                int answer = Greens.figure(g, text.toString());
                if (steps.size() > 300) {
                    Check.due("too long: " + text, answer, -2);
                    continue;
                }
                Check.due(text.toString(), answer, known.size());
                int[] want = new int[steps.size()];
                for (int i = 0; i < want.length; i++) {
                    want[i] = steps.get(i);
                }
                areSteps(g, answer, want);
                known.add(steps);
            }
        }
    }

    private static List<Integer> items(Random random, StringBuilder text, List<List<Integer>> known, int depth) {
        List<Integer> steps = new ArrayList<>();
        int count = 1 + random.nextInt(4);
        for (int i = 0; i < count; i++) {
            int sort = random.nextInt(5);
            if (sort == 0) {
                int how = random.nextInt(2);
                text.append(how == 0 ? 'w' : 'v');
                steps.add(100 + how);
            } else if (sort == 1 && !known.isEmpty()) {
                int letter = random.nextInt(known.size());
                text.append((char) ('A' + letter));
                steps.addAll(known.get(letter));
            } else if (sort < 4 && depth < 4) {
                text.append('(');
                steps.addAll(closed(random, text, items(random, text, known, depth + 1)));
            } else {
                int p = random.nextInt(10);
                int how = random.nextInt(2);
                text.append(p).append(how == 0 ? '<' : '>');
                steps.add(10 * p + how);
            }
        }
        return steps;
    }

    private static List<Integer> closed(Random random, StringBuilder text, List<Integer> inner) {
        List<Integer> steps = new ArrayList<>();
        text.append(')');
        if (random.nextInt(2) == 0) {
            text.append('-');
            for (int i = inner.size() - 1; i >= 0; i--) {
                int step = inner.get(i);
                steps.add(step % 2 == 0 ? step + 1 : step - 1);
            }
            return steps;
        }
        int times = 2 + random.nextInt(3);
        text.append(times);
        for (int i = 0; i < times; i++) {
            steps.addAll(inner);
        }
        return steps;
    }

    private static void tooLong() {
        MaypoleGreen g = new MaypoleGreen();
        Check.due("300 STEPS", Greens.figure(g, "(((0<1>w)5)5)4"), 0);
        Check.due("300 STEPS", g.told(0, -1), 300);
        Check.due("300 by a letter", Greens.figure(g, "A"), 1);
        Check.due("301", Greens.figure(g, "Aw"), -2);
        Check.due("THE TEXT is empty", g.count(4), 0);
        Check.due("301", Greens.figure(g, "vA"), -2);
        Check.due("600", Greens.figure(g, "AA"), -2);
        Check.due("600, undone", Greens.figure(g, "(AA)-w"), -2);
        Check.due("6561 STEPS", Greens.figure(g, "((((w)9)9)9)9"), -2);
        Check.due("no end to it", Greens.figure(g, "((((A)9)9)9)9((((A)9)9)9)9"), -2);
        Check.due("a FAULT behind too many STEPS", Greens.figure(g, "((((A)9)9)9)9x"), -23);
        Check.due("the end behind too many STEPS", Greens.figure(g, "AAA("), -14);
        Check.due("FIGURES", g.count(3), 2);
        Check.due("the undoing of 300", Greens.figure(g, "(A)-"), 2);
        Check.due("its first", g.told(2, 0), 101);
        Check.due("its last", g.told(2, 299), 1);
    }

    private static void full() {
        MaypoleGreen g = new MaypoleGreen();
        for (int i = 0; i < 10; i++) {
            String text = i == 0 ? "w" : String.valueOf((char) ('A' + i - 1)) + "v";
            Check.due("FIGURE " + i, Greens.figure(g, text), i);
        }
        Check.due("count(3)", g.count(3), 10);
        Check.due("I and v", g.told(9, -1), 10);
        Check.due("no 11th", g.told(10, -1), -1);
        Check.due("no 11th", g.dance(10), -1);
        Greens.feed(g, "J");
        Check.due("an 11th", g.figure(), -4);
        Check.due("THE TEXT stays", g.count(4), 1);
        Greens.feed(g, "((");
        Check.due("a FAULT is named behind FULL", g.figure(), -4);
        Check.due("THE TEXT stays", g.count(4), 3);
    }

    private static void dance() {
        MaypoleGreen g = Greens.standing(3, 25);
        Greens.figure(g, "0<1>w");
        Greens.figure(g, "w0<3<w");
        Greens.figure(g, "9<");
        Check.due("no such", g.dance(3), -1);
        Check.due("THE DANCE is none here", g.dance(-1), -1);
        Check.due("no DANCE", g.dance(0), -3);
        g.begin();
        Check.due("no such", g.dance(3), -1);
        Check.due("all", g.dance(0), 3);
        Check.due("till PLACE 3", g.dance(1), 2);
        Check.due("STEPS", g.count(2), 5);
        Check.due("the last", g.step(4), 0);
        Check.due("none", g.dance(2), 0);
        Check.due("none: who goes inside has nothing left", g.dance(0), 0);
        Check.due("ROWS", g.rows(), 2);
        Check.due("left at 0", g.at(0, 2), 0);
        Check.due("left at 1", g.at(1, 2), 3);
        Check.due("left at 2", g.at(2, 2), 3);
        MaypoleGreen nine = Greens.dancing(9, 500);
        Greens.figure(nine, "8<9<");
        Check.due("9 is no PLACE of nine", nine.dance(0), 1);
        Check.due("nor of a FORM", nine.form(0, -1), -97);
        Check.due("nor right", nine.right(0), 0);
    }
}
