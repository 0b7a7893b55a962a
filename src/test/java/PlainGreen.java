import java.util.ArrayList;
import java.util.Arrays;
import java.util.Collections;
import java.util.List;

/** The document read a second time, in the plainest way and at any cost: what the random runs are held against. */
final class PlainGreen {
    static final int NONE = -1, BAD = -2, STATE = -3, FULL = -4;
    static final int NOTHING = -11, CAST = -12, PLACE = -13, SIZE = -14;

    /** What is at a PLACE: all of it goes along in a step. */
    private static final class Spot {
        int person = -5;
        int colour = 0;
        int length = 0;
        int ribbon;

        Spot(int ribbon) {
            this.ribbon = ribbon;
        }

        Spot copy() {
            Spot s = new Spot(ribbon);
            s.person = person;
            s.colour = colour;
            s.length = length;
            return s;
        }
    }

    /** One DANCE from its beginning on. */
    private static final class Dance {
        List<Spot> spots = new ArrayList<>();
        final List<Integer> steps = new ArrayList<>();
        final List<int[]> ribbons = new ArrayList<>();
        final List<int[]> marks = new ArrayList<>();
        int[] now;

        Dance(List<Spot> from) {
            for (Spot s : from) {
                spots.add(s.copy());
            }
            now = new int[from.size()];
        }

        int n() {
            return spots.size();
        }

        int girth() {
            return 10 + ribbons.size() / 3;
        }

        int take(int step) {
            int p = step / 10;
            if (step < 100 && p >= n()) {
                return STATE;
            }
            int[] cost = new int[n()];
            if (step >= 100) {
                Arrays.fill(cost, girth());
            } else {
                int inside = step % 10 == 0 ? p : (p + 1) % n();
                int outside = step % 10 == 0 ? (p + 1) % n() : p;
                cost[inside] = 1;
                cost[outside] = 2;
            }
            for (int i = 0; i < n(); i++) {
                if (spots.get(i).length < cost[i]) {
                    return STATE;
                }
            }
            if (steps.size() == 300 || step >= 100 && ribbons.size() == 100) {
                return FULL;
            }
            for (int i = 0; i < n(); i++) {
                spots.get(i).length -= cost[i];
            }
            steps.add(step);
            if (step < 100) {
                Collections.swap(spots, p, (p + 1) % n());
                now[p] = step % 10 + 1;
                return steps.size();
            }
            Collections.rotate(spots, step == 100 ? 1 : -1);
            int[] row = new int[n()];
            for (int i = 0; i < n(); i++) {
                row[i] = spots.get(i).ribbon;
            }
            ribbons.add(row);
            marks.add(now);
            now = new int[n()];
            return steps.size();
        }
    }

    private final List<int[]> people = new ArrayList<>();
    private List<Spot> ring = new ArrayList<>();
    private List<Spot> start = new ArrayList<>();
    private Dance dance = new Dance(new ArrayList<>());
    private boolean dancing = false;
    private final List<int[]> picture = new ArrayList<>();
    private String text = "";
    private final List<List<Integer>> figures = new ArrayList<>();
    private final List<Integer> trace = new ArrayList<>();
    private final int[] sorts = {-1, -1, -1, -1, -1, -1};
    private final int[][] tapes = new int[6][0];

    private int n() {
        return ring.size();
    }

    private boolean place(int p) {
        return p >= 0 && p < n();
    }

    private List<Spot> here() {
        return dancing ? dance.spots : ring;
    }

    int person(int kind, int reach, int pace) {
        if (kind < 0 || kind > 4 || reach < 1 || reach > 20 || pace < 1 || pace > 9) {
            return BAD;
        }
        if (people.size() == 15) {
            return FULL;
        }
        people.add(new int[] {kind, reach, pace});
        return people.size() - 1;
    }

    int ring(int n) {
        if (n < 3 || n > 9) {
            return BAD;
        }
        if (dancing) {
            return STATE;
        }
        ring = new ArrayList<>();
        for (int i = 0; i < n; i++) {
            ring.add(new Spot(i));
        }
        dance = new Dance(ring);
        return 1;
    }

    int stand(int place, int person) {
        if (!place(place) || person < 0 || person >= people.size()) {
            return NONE;
        }
        if (dancing) {
            return STATE;
        }
        for (Spot s : ring) {
            if (s.person == person) {
                return STATE;
            }
        }
        if (people.get(person)[0] == 4) {
            return CAST;
        }
        int before = ring.get(place).person;
        ring.get(place).person = person;
        return before;
    }

    int ribbon(int place, int colour, int length) {
        if (!place(place)) {
            return NONE;
        }
        if (colour < 0 || colour > 7 || length < 0 || length > 99999) {
            return BAD;
        }
        if (dancing) {
            return STATE;
        }
        ring.get(place).colour = colour;
        ring.get(place).length = length;
        return 1;
    }

    int at(int place, int what) {
        if (!place(place) || what < 0 || what > 3) {
            return -6;
        }
        Spot s = here().get(place);
        return what == 0 ? s.person : what == 1 ? s.colour : what == 2 ? s.length : s.ribbon;
    }

    int begin() {
        if (dancing || n() == 0) {
            return STATE;
        }
        for (Spot s : ring) {
            if (s.person == -5) {
                return STATE;
            }
        }
        start = new ArrayList<>();
        for (Spot s : ring) {
            start.add(s.copy());
        }
        dance = new Dance(start);
        dancing = true;
        return n();
    }

    int end() {
        if (!dancing) {
            return STATE;
        }
        dancing = false;
        for (int i = 0; i < n(); i++) {
            Spot s = dance.spots.get(i).copy();
            s.ribbon = i;
            ring.set(i, s);
        }
        return dance.steps.size();
    }

    int pass(int p, int how) {
        if (!place(p)) {
            return NONE;
        }
        if (how < 0 || how > 1) {
            return BAD;
        }
        return dancing ? dance.take(10 * p + how) : STATE;
    }

    int walk(int how) {
        if (how < 0 || how > 1) {
            return BAD;
        }
        return dancing ? dance.take(100 + how) : STATE;
    }

    int girth() {
        return dance.girth();
    }

    int step(int i) {
        return i >= 0 && i < dance.steps.size() ? dance.steps.get(i) : NONE;
    }

    int rows() {
        return dance.ribbons.size();
    }

    private int topRibbon(int row, int p) {
        int[] marks = dance.marks.get(row);
        int from = marks[p] == 1 && marks[(p + n() - 1) % n()] != 2 ? (p + 1) % n() : p;
        return dance.ribbons.get(row)[from];
    }

    private int top(int row, int p) {
        return start.get(topRibbon(row, p)).colour;
    }

    private boolean laid(int row, int place) {
        return row >= 0 && row < rows() && place(place);
    }

    int cloth(int row, int place, int what) {
        if (!laid(row, place) || what < 0 || what > 2) {
            return NONE;
        }
        return what == 0 ? dance.ribbons.get(row)[place] : what == 1 ? dance.marks.get(row)[place] : top(row, place);
    }

    int beat() {
        if (rows() == 0) {
            return STATE;
        }
        if (rows() < 2) {
            return rows();
        }
        List<List<Integer>> tops = new ArrayList<>();
        for (int r = 0; r < rows(); r++) {
            List<Integer> row = new ArrayList<>();
            for (int p = 0; p < n(); p++) {
                row.add(top(r, p));
            }
            tops.add(row);
        }
        int b = 1;
        while (!tops.subList(b, tops.size()).equals(tops.subList(0, tops.size() - b))) {
            b++;
        }
        return b;
    }

    int picture(int row, int place, int colour) {
        if (row < 0 || row > 99 || place < 0 || place > 8) {
            return NONE;
        }
        if (colour < 0 || colour > 7) {
            return BAD;
        }
        if (picture.size() == 40) {
            return FULL;
        }
        picture.add(new int[] {row, place, colour});
        return picture.size();
    }

    int pictureless() {
        int before = picture.size();
        picture.clear();
        return before;
    }

    int wrong() {
        int wrong = 0;
        for (int[] t : picture) {
            if (!laid(t[0], t[1]) || top(t[0], t[1]) != t[2]) {
                wrong++;
            }
        }
        return wrong;
    }

    int colours(int c, int what) {
        if (what != -1 && !place(what)) {
            return NONE;
        }
        if (c < 1 || c > 4) {
            return BAD;
        }
        if (rows() == 0 || n() > 6) {
            return STATE;
        }
        int[] best = null;
        int least = Integer.MAX_VALUE;
        for (int all = 0; all < Math.pow(c, n()); all++) {
            int[] row = new int[n()];
            for (int i = n() - 1, rest = all; i >= 0; i--, rest /= c) {
                row[i] = rest % c;
            }
            int wrong = 0;
            for (int[] t : picture) {
                if (!laid(t[0], t[1]) || row[topRibbon(t[0], t[1])] != t[2]) {
                    wrong++;
                }
            }
            if (wrong < least) {
                least = wrong;
                best = row;
            }
        }
        return what == -1 ? least : best[what];
    }

    private List<Integer> steps(int figure) {
        if (figure == -1) {
            return dance.steps;
        }
        return figure >= 0 && figure < figures.size() ? figures.get(figure) : null;
    }

    /** TURNS, then the PASSES; null if one is at no PLACE. */
    private List<Integer> formOf(List<Integer> steps) {
        int turns = 0;
        List<Integer> passes = new ArrayList<>();
        for (int s : steps) {
            if (s >= 100) {
                turns += s == 100 ? 1 : -1;
            } else if (s / 10 >= n()) {
                return null;
            } else {
                passes.add(10 * Math.floorMod(s / 10 - turns, n()) + s % 10);
            }
        }
        while (leaveTwoOut(passes)) {
            continue;
        }
        List<Integer> form = new ArrayList<>();
        form.add(turns);
        while (!passes.isEmpty()) {
            int least = -1;
            for (int i = 0; i < passes.size(); i++) {
                if (canGoTo(passes, i, 0) && (least < 0 || passes.get(i) < passes.get(least))) {
                    least = i;
                }
            }
            form.add(passes.remove(least));
        }
        return form;
    }

    private boolean leaveTwoOut(List<Integer> passes) {
        for (int i = 0; i < passes.size(); i++) {
            for (int j = i + 1; j < passes.size(); j++) {
                if (passes.get(i) == (passes.get(j) ^ 1) && canGoTo(passes, j, i + 1)) {
                    passes.remove(j);
                    passes.remove(i);
                    return true;
                }
            }
        }
        return false;
    }

    private boolean canGoTo(List<Integer> passes, int from, int to) {
        for (int i = to; i < from; i++) {
            int apart = Math.floorMod(passes.get(i) / 10 - passes.get(from) / 10, n());
            if (apart < 2 || apart == n() - 1) {
                return false;
            }
        }
        return true;
    }

    int form(int figure, int what) {
        List<Integer> steps = steps(figure);
        if (steps == null || what < -2) {
            return -99;
        }
        if (n() == 0) {
            return -98;
        }
        List<Integer> form = formOf(steps);
        if (form == null) {
            return -97;
        }
        if (what < 0) {
            return what == -2 ? form.get(0) : form.size() - 1;
        }
        return what < form.size() - 1 ? form.get(what + 1) : -99;
    }

    int akin(int a, int b) {
        if (steps(a) == null || steps(b) == null) {
            return NONE;
        }
        if (n() == 0 || formOf(steps(a)) == null || formOf(steps(b)) == null) {
            return STATE;
        }
        return formOf(steps(a)).equals(formOf(steps(b))) ? 1 : 0;
    }

    int feed(int bytes, int n) {
        if (n < 0 || n > 4) {
            return BAD;
        }
        if (text.length() + n > 80) {
            return FULL;
        }
        for (int i = n - 1; i >= 0; i--) {
            text += (char) (bytes >> 8 * i & 255);
        }
        return text.length();
    }

    /** Reads by going down; a FAULT is thrown with its place. */
    private static final class Fault extends Exception {
        private static final long serialVersionUID = 1;
        final int place;

        Fault(int place) {
            this.place = place;
        }
    }

    private int next;

    private char sign() throws Fault {
        if (next >= text.length()) {
            throw new Fault(text.length());
        }
        return text.charAt(next);
    }

    private List<Integer> items(int depth) throws Fault {
        List<Integer> steps = item(depth);
        while (depth == 0 ? next < text.length() : sign() != ')') {
            List<Integer> more = item(depth);
            if (steps.size() <= 300) {
                steps.addAll(more);
            }
        }
        return steps;
    }

    private List<Integer> item(int depth) throws Fault {
        List<Integer> steps = new ArrayList<>();
        char c = sign();
        if (c >= '0' && c <= '9') {
            next++;
            if (sign() != '<' && sign() != '>') {
                throw new Fault(next);
            }
            steps.add(10 * (c - '0') + (sign() == '<' ? 0 : 1));
        } else if (c == 'w' || c == 'v') {
            steps.add(c == 'w' ? 100 : 101);
        } else if (c >= 'A' && c < 'A' + figures.size()) {
            steps.addAll(figures.get(c - 'A'));
        } else if (c == '(' && depth < 4) {
            next++;
            List<Integer> inner = items(depth + 1);
            next++;
            char how = sign();
            if (how == '-') {
                for (int s : inner) {
                    steps.add(0, s ^ 1);
                }
            } else if (how >= '2' && how <= '9') {
                for (int i = 0; i < how - '0' && steps.size() <= 300; i++) {
                    steps.addAll(inner);
                }
            } else {
                throw new Fault(next);
            }
        } else {
            throw new Fault(next);
        }
        next++;
        return steps;
    }

    int figure() {
        if (figures.size() == 10) {
            return FULL;
        }
        next = 0;
        try {
            List<Integer> steps = items(0);
            text = "";
            if (steps.size() > 300) {
                return BAD;
            }
            figures.add(steps);
            return figures.size() - 1;
        } catch (Fault f) {
            text = "";
            return -10 - f.place;
        }
    }

    int told(int figure, int i) {
        if (figure == -1 || steps(figure) == null) {
            return NONE;
        }
        List<Integer> steps = steps(figure);
        return i == -1 ? steps.size() : i >= 0 && i < steps.size() ? steps.get(i) : NONE;
    }

    int dance(int figure) {
        if (figure == -1 || steps(figure) == null) {
            return NONE;
        }
        if (!dancing) {
            return STATE;
        }
        int done = 0;
        for (int s : steps(figure)) {
            if (dance.take(s) < 0) {
                return done;
            }
            done++;
        }
        return done;
    }

    private boolean comesSo(List<Integer> steps) {
        Dance other = new Dance(start);
        for (int s : steps) {
            if (other.take(s) < 0) {
                return false;
            }
        }
        return Arrays.deepEquals(other.ribbons.toArray(), dance.ribbons.toArray())
            && Arrays.deepEquals(other.marks.toArray(), dance.marks.toArray());
    }

    int right(int figure) {
        if (figure == -1 || steps(figure) == null) {
            return NONE;
        }
        return !dancing ? STATE : comesSo(steps(figure)) ? 1 : 0;
    }

    int slips(int figure, int i) {
        if (figure == -1 || steps(figure) == null || i < -1) {
            return NONE;
        }
        if (!dancing) {
            return STATE;
        }
        List<Integer> found = new ArrayList<>();
        for (int k = 0; k < steps(figure).size(); k++) {
            int s = steps(figure).get(k);
            for (int slip = 0; slip < 3; slip++) {
                List<Integer> row = new ArrayList<>(steps(figure));
                if (slip == 0) {
                    row.remove(k);
                } else if (slip == 1) {
                    row.set(k, s ^ 1);
                } else {
                    row.add(k, s);
                }
                if (comesSo(row)) {
                    found.add(10 * k + slip);
                }
            }
        }
        return i == -1 ? found.size() : i < found.size() ? found.get(i) : NONE;
    }

    int fewest(int tape, int what) {
        if (tape < 0 || tape > 5 || what < -1) {
            return NONE;
        }
        if (n() == 0 || n() > 7) {
            return STATE;
        }
        if (sorts[tape] == -1) {
            return NOTHING;
        }
        if (sorts[tape] != 0) {
            return CAST;
        }
        if (tapes[tape].length < n()) {
            return PLACE;
        }
        int[] goal = Arrays.copyOf(tapes[tape], n());
        int[] sorted = goal.clone();
        Arrays.sort(sorted);
        int[] now = new int[n()];
        for (int i = 0; i < n(); i++) {
            if (sorted[i] != i) {
                return BAD;
            }
            now[i] = here().get(i).ribbon;
        }
        int[] path = new int[40];
        int most = 0;
        while (!reaches(now, goal, path, 0, most)) {
            most++;
        }
        return what == -1 ? most : what < most ? path[what] : NONE;
    }

    /** Whether so many PASSES can do it, by the lesser p first; each brings two things nearer by one at most. */
    private boolean reaches(int[] now, int[] goal, int[] path, int done, int most) {
        int apart = 0;
        for (int i = 0; i < now.length; i++) {
            for (int j = 0; j < now.length; j++) {
                if (now[i] == goal[j]) {
                    apart += Math.min(Math.abs(i - j), now.length - Math.abs(i - j));
                }
            }
        }
        if (apart == 0 && done == most) {
            return true;
        }
        if (apart > 2 * (most - done) || done == most) {
            return false;
        }
        for (int p = 0; p < now.length; p++) {
            int[] then = now.clone();
            then[p] = now[(p + 1) % now.length];
            then[(p + 1) % now.length] = now[p];
            path[done] = p;
            if (reaches(then, goal, path, done + 1, most)) {
                return true;
            }
        }
        return false;
    }

    private int seatable(int bits) {
        if (n() == 0 || n() > 7) {
            return STATE;
        }
        int count = 0;
        for (int i = 0; i < 32; i++) {
            if ((bits >> i & 1) != 0) {
                count++;
                if (i >= people.size() || people.get(i)[0] == 4) {
                    return BAD;
                }
            }
        }
        return count == n() ? 0 : BAD;
    }

    private void seat(int bits, List<Integer> row, List<Integer> best, int[] least) {
        if (row.size() == n()) {
            int sum = 0;
            for (int i = 0; i < n(); i++) {
                sum += Math.abs(people.get(row.get(i))[1] - people.get(row.get((i + 1) % n()))[1]);
            }
            if (sum < least[0]) {
                least[0] = sum;
                best.clear();
                best.addAll(row);
            }
            return;
        }
        for (int i = 0; i < people.size(); i++) {
            if ((bits >> i & 1) != 0 && !row.contains(i)) {
                row.add(i);
                seat(bits, row, best, least);
                row.remove(row.size() - 1);
            }
        }
    }

    int set(int bits, int what) {
        if (seatable(bits) != 0) {
            return seatable(bits);
        }
        if (what < -1 || what >= n()) {
            return NONE;
        }
        int[] least = {Integer.MAX_VALUE};
        List<Integer> best = new ArrayList<>();
        seat(bits, new ArrayList<>(), best, least);
        return what == -1 ? least[0] : best.get(what);
    }

    int spent(int bits, int figure) {
        if (figure == -1 || steps(figure) == null) {
            return NONE;
        }
        if (seatable(bits) != 0) {
            return seatable(bits);
        }
        List<Integer> round = new ArrayList<>();
        seat(bits, new ArrayList<>(), round, new int[] {Integer.MAX_VALUE});
        int sum = 0;
        for (int s : steps(figure)) {
            if (s >= 100) {
                int most = 0;
                for (int who : round) {
                    most = Math.max(most, people.get(who)[2]);
                }
                sum += most;
                Collections.rotate(round, s == 100 ? 1 : -1);
            } else if (s / 10 >= n()) {
                return STATE;
            } else {
                int p = s / 10;
                sum += people.get(round.get(p))[2] + people.get(round.get((p + 1) % n()))[2];
                Collections.swap(round, p, (p + 1) % n());
            }
        }
        return sum;
    }

    private int greets(int i, int kind, int x) {
        switch (kind) {
            case 1:
                trace.add(20);
                return greets(i, 0, x) - 4;
            case 3:
                trace.add(40);
                return greets(i, 2, x * 3);
            default:
                trace.add(10);
                return x + people.get(i)[1];
        }
    }

    private int leads(int i, int kind, int x) {
        int own = people.get(i)[0];
        if (kind == 3) {
            trace.add(41);
            return -leads(i, 2, x);
        }
        if (kind == 2) {
            trace.add(30);
            int led = leads(i, 0, x);
            return led + greets(i, own, x);
        }
        trace.add(11);
        return greets(i, own, x) - people.get(i)[2];
    }

    private int rests(int i, int kind, int x) {
        int own = people.get(i)[0];
        if (kind == 4) {
            trace.add(50);
            int led = leads(i, own, x);
            return led + rests(i, 0, x - 1);
        }
        trace.add(12);
        return leads(i, own, x) ^ i;
    }

    int act(int person, int act, int x) {
        trace.clear();
        if (person < 0 || person >= people.size() || act < 0 || act > 2) {
            return 0;
        }
        int kind = people.get(person)[0];
        return act == 0 ? greets(person, kind, x) : act == 1 ? leads(person, kind, x) : rests(person, kind, x);
    }

    int trace(int i) {
        return i >= 0 && i < 20 && i < trace.size() ? trace.get(i) : NONE;
    }

    int taken(int person, int k) {
        if (k < 0 || k > 4) {
            return BAD;
        }
        if (person < 0 || person >= people.size()) {
            return NOTHING;
        }
        int kind = people.get(person)[0];
        return k == 0 || k == kind || k == 2 && kind == 3 ? kind : CAST;
    }

    int count(int what) {
        int[] all = {people.size(), n(), dance.steps.size(), figures.size(), text.length(), picture.size(),
            dancing ? 1 : 0, trace.size()};
        return what >= 0 && what < 8 ? all[what] : BAD;
    }

    int tape(int tape, int sort, int n) {
        if (tape < 0 || tape > 5) {
            return NONE;
        }
        if (sort < -1 || sort > 4 || sort >= 0 && n > 60) {
            return BAD;
        }
        if (sort >= 0 && n < 0) {
            return SIZE;
        }
        sorts[tape] = sort;
        tapes[tape] = new int[sort < 0 ? 0 : n];
        return 1;
    }

    int item(int tape, int i, int v) {
        if (tape < 0 || tape > 5) {
            return NONE;
        }
        if (sorts[tape] < 0) {
            return NOTHING;
        }
        if (i < 0 || i >= tapes[tape].length) {
            return PLACE;
        }
        int[] cut = {v << 24 >> 24, v << 16 >> 16, v, v == 0 ? 0 : 1, v & 65535};
        tapes[tape][i] = cut[sorts[tape]];
        return 1;
    }

    int read(int tape, int i) {
        boolean is = tape >= 0 && tape < 6 && sorts[tape] >= 0 && i >= 0 && i < tapes[tape].length;
        return is ? tapes[tape][i] : -1000000000;
    }

    int shift(int tape, int i, int other, int j, int n) {
        if (tape < 0 || tape > 5 || other < 0 || other > 5) {
            return NONE;
        }
        if (sorts[tape] < 0 || sorts[other] < 0) {
            return NOTHING;
        }
        if (sorts[tape] != sorts[other]) {
            return CAST;
        }
        if (n < 0 || i < 0 || j < 0 || (long) i + n > tapes[tape].length || (long) j + n > tapes[other].length) {
            return PLACE;
        }
        int[] before = tapes[tape].clone();
        for (int k = 0; k < n; k++) {
            tapes[other][j + k] = before[i + k];
        }
        return n;
    }
}
