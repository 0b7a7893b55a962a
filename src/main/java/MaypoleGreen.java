import java.util.Arrays;

/** A maypole green; what each call answers is told in shared/DOC.md, by promises. */
public final class MaypoleGreen {
    public static final int NONE = -1, BAD = -2, STATE = -3, FULL = -4;

    private static final int NOTHING = -11, CAST = -12, PLACE = -13, SIZE = -14;
    private static final int NOBODY = -5;
    private static final int NONE_SUCH = -6;
    private static final int NO_SUCH_FORM = -99, FORM_WITHOUT_RING = -98, FORM_OFF_RING = -97;
    private static final int NO_ITEM = -1000000000;

    private static final int FEWEST_PLACES = 3, MOST_PLACES = 9;
    private static final int MOST_PEOPLE = 15, MOST_REACH = 20, MOST_PACE = 9;
    private static final int COLOURS = 8, MOST_LENGTH = 99999;
    private static final int MOST_STEPS = 300, MOST_ROWS = 100;
    private static final int MOST_THINGS = 40;
    private static final int MOST_ASKED_COLOURS = 4, MOST_COLOURED_PLACES = 6;
    private static final int MOST_BYTES = 80, MOST_FIGURES = 10, DEEPEST_GROUP = 4;
    private static final int MOST_ORDERED_PLACES = 7;
    private static final int TAPES = 6, MOST_ITEMS = 60;

    /** A STEP is held as step() tells it: 10 p and 0 or 1; its UNDOING differs in the lowest bit. */
    private static final int WALK_ON = 100;

    private static final int DANCER = 0, PIPER = 4, KINDS = 5;
    private static final int GREETS = 0, LEADS = 1, RESTS = 2, ACTS = 3;
    private static final int[] KIND_ABOVE = {-1, 0, 0, 2, 0};
    /** By 3 KIND and act; 0 where a KIND has no body of its own. */
    private static final int[] BODIES = {10, 11, 12, 20, 0, 0, 0, 30, 0, 40, 41, 0, 0, 0, 50};

    private static final int BYTES = 0, SHORTS = 1, BOOLEANS = 3, CHARS = 4, NO_SORT = -1;

    private final Person[] people = new Person[MOST_PEOPLE];
    private int peopleCount = 0;
    private final Acts acts = new Acts();

    /** Who stands with a RIBBON, and its COLOUR: by RIBBON, which is its PLACE while there is no DANCE. */
    private final int[] who = new int[MOST_PLACES];
    private final int[] colour = new int[MOST_PLACES];
    private final Floor floor = new Floor();
    private boolean dancing = false;
    private final Steps danced = new Steps(MOST_STEPS);
    private final Cloth cloth = new Cloth();
    private final Picture picture = new Picture();

    /** The floor as the DANCE began, and two more on which a FIGURE is tried without touching it. */
    private final Floor start = new Floor();
    private final Floor asTold = new Floor();
    private final Floor trial = new Floor();

    private final Reader reader = new Reader();
    private final Form form = new Form();
    private final Form otherForm = new Form();
    private final Orders orders = new Orders();
    private final Seating seating = new Seating();
    private final Tape[] tapes = new Tape[TAPES];

    public MaypoleGreen() {
        for (int i = 0; i < TAPES; i++) {
            tapes[i] = new Tape();
        }
    }

    // ---- people, the ring

    public int person(int kind, int reach, int pace) {
        if (kind < 0 || kind >= KINDS || reach < 1 || reach > MOST_REACH || pace < 1 || pace > MOST_PACE) {
            return BAD;
        }
        if (peopleCount >= MOST_PEOPLE) {
            return FULL;
        }
        int number = peopleCount;
        people[number] = new Person(number, kind, reach, pace);
        peopleCount++;
        return number;
    }

    public int ring(int n) {
        if (n < FEWEST_PLACES || n > MOST_PLACES) {
            return BAD;
        }
        if (dancing) {
            return STATE;
        }
        floor.lay(n);
        Arrays.fill(who, NOBODY);
        Arrays.fill(colour, 0);
        danced.clear();
        cloth.open(n, colour);
        return 1;
    }

    public int stand(int place, int person) {
        Person comer = personAt(person);
        if (!isPlace(place) || comer == null) {
            return NONE;
        }
        if (dancing || standsInRing(person)) {
            return STATE;
        }
        if (comer.kind == PIPER) {
            return CAST;
        }
        int before = who[place];
        who[place] = person;
        return before;
    }

    public int ribbon(int place, int colour, int length) {
        if (!isPlace(place)) {
            return NONE;
        }
        if (!isColour(colour) || length < 0 || length > MOST_LENGTH) {
            return BAD;
        }
        if (dancing) {
            return STATE;
        }
        this.colour[place] = colour;
        floor.left[place] = length;
        return 1;
    }

    public int at(int place, int what) {
        if (!isPlace(place)) {
            return NONE_SUCH;
        }
        int ribbon = floor.order[place];
        switch (what) {
            case 0:
                return who[ribbon];
            case 1:
                return colour[ribbon];
            case 2:
                return floor.left[ribbon];
            case 3:
                return ribbon;
            default:
                return NONE_SUCH;
        }
    }

    public int begin() {
        if (dancing || floor.n == 0 || standsInRing(NOBODY)) {
            return STATE;
        }
        floor.restart();
        danced.clear();
        cloth.open(floor.n, colour);
        start.copy(floor);
        dancing = true;
        return floor.n;
    }

    public int end() {
        if (!dancing) {
            return STATE;
        }
        floor.bringToPlaces(who);
        floor.bringToPlaces(colour);
        floor.bringToPlaces(floor.left);
        floor.callByPlaces();
        dancing = false;
        return danced.count;
    }

    // ---- steps

    public int pass(int p, int how) {
        if (!isPlace(p)) {
            return NONE;
        }
        if (how != 0 && how != 1) {
            return BAD;
        }
        return doStep(10 * p + how);
    }

    public int walk(int how) {
        if (how != 0 && how != 1) {
            return BAD;
        }
        return doStep(WALK_ON + how);
    }

    public int girth() {
        return floor.girthNow();
    }

    public int step(int i) {
        return danced.codeAt(i);
    }

    // ---- the cloth

    public int rows() {
        return cloth.rows;
    }

    public int cloth(int row, int place, int what) {
        if (!cloth.has(row, place)) {
            return NONE;
        }
        switch (what) {
            case 0:
                return cloth.ribbonAt(row, place);
            case 1:
                return cloth.markAt(row, place);
            case 2:
                return cloth.topAt(row, place);
            default:
                return NONE;
        }
    }

    public int beat() {
        if (cloth.rows == 0) {
            return STATE;
        }
        return cloth.leastBeat();
    }

    public int picture(int row, int place, int colour) {
        if (row < 0 || row >= MOST_ROWS || place < 0 || place >= MOST_PLACES) {
            return NONE;
        }
        if (!isColour(colour)) {
            return BAD;
        }
        return picture.tell(row, place, colour) ? picture.count : FULL;
    }

    public int pictureless() {
        int before = picture.count;
        picture.count = 0;
        return before;
    }

    public int wrong() {
        return picture.wrongOn(cloth);
    }

    public int colours(int c, int what) {
        if (what != -1 && !isPlace(what)) {
            return NONE;
        }
        if (c < 1 || c > MOST_ASKED_COLOURS) {
            return BAD;
        }
        if (cloth.rows == 0 || floor.n > MOST_COLOURED_PLACES) {
            return STATE;
        }
        picture.choose(cloth, c);
        return what == -1 ? picture.leastWrong : picture.chosen[what];
    }

    // ---- forms

    public int form(int figure, int what) {
        Steps steps = figureOrDance(figure);
        if (steps == null || what < -2) {
            return NO_SUCH_FORM;
        }
        if (floor.n == 0) {
            return FORM_WITHOUT_RING;
        }
        if (!form.cutDown(steps, floor.n)) {
            return FORM_OFF_RING;
        }
        if (what == -2) {
            return form.turns;
        }
        if (what == -1) {
            return form.count;
        }
        return what < form.count ? form.passes[what] : NO_SUCH_FORM;
    }

    public int akin(int a, int b) {
        Steps one = figureOrDance(a);
        Steps other = figureOrDance(b);
        if (one == null || other == null) {
            return NONE;
        }
        if (floor.n == 0 || !form.cutDown(one, floor.n) || !otherForm.cutDown(other, floor.n)) {
            return STATE;
        }
        return form.isLike(otherForm) ? 1 : 0;
    }

    // ---- figures

    public int feed(int bytes, int n) {
        if (n < 0 || n > 4) {
            return BAD;
        }
        return reader.take(bytes, n) ? reader.length : FULL;
    }

    public int figure() {
        if (reader.figureCount >= MOST_FIGURES) {
            return FULL;
        }
        int fault = reader.parse();
        reader.length = 0;
        if (fault >= 0) {
            return -10 - fault;
        }
        if (reader.tooLong) {
            return BAD;
        }
        return reader.keep();
    }

    public int told(int figure, int i) {
        Steps steps = reader.figureAt(figure);
        if (steps == null) {
            return NONE;
        }
        return i == -1 ? steps.count : steps.codeAt(i);
    }

    public int dance(int figure) {
        Steps steps = reader.figureAt(figure);
        if (steps == null) {
            return NONE;
        }
        if (!dancing) {
            return STATE;
        }
        int done = 0;
        while (done < steps.count && doStep(steps.codes[done]) >= 0) {
            done++;
        }
        return done;
    }

    // ---- slips

    public int right(int figure) {
        Steps steps = reader.figureAt(figure);
        if (steps == null) {
            return NONE;
        }
        if (!dancing) {
            return STATE;
        }
        trial.copy(start);
        return weavesOn(trial, steps, 0) ? 1 : 0;
    }

    public int slips(int figure, int i) {
        Steps steps = reader.figureAt(figure);
        if (steps == null || i < -1) {
            return NONE;
        }
        if (!dancing) {
            return STATE;
        }
        return explained(steps, i);
    }

    // ---- orders, people set

    public int fewest(int tape, int what) {
        Tape order = tapeAt(tape);
        if (order == null || what < -1) {
            return NONE;
        }
        int n = floor.n;
        if (n == 0 || n > MOST_ORDERED_PLACES) {
            return STATE;
        }
        if (order.sort == NO_SORT) {
            return NOTHING;
        }
        if (order.sort != BYTES) {
            return CAST;
        }
        if (order.length < n) {
            return PLACE;
        }
        if (!orders.ask(floor, order.items)) {
            return BAD;
        }
        orders.search(n);
        if (what == -1) {
            return orders.count;
        }
        return what < orders.count ? orders.path[what] : NONE;
    }

    public int set(int people, int what) {
        int refused = seatPeople(people);
        if (refused != 0) {
            return refused;
        }
        if (what < -1 || what >= floor.n) {
            return NONE;
        }
        return what == -1 ? seating.leastSum : seating.numberAt(what);
    }

    public int spent(int people, int figure) {
        Steps steps = reader.figureAt(figure);
        if (steps == null) {
            return NONE;
        }
        int refused = seatPeople(people);
        if (refused != 0) {
            return refused;
        }
        return seating.spentIn(steps);
    }

    // ---- acts, tapes

    public int act(int person, int act, int x) {
        Person actor = personAt(person);
        acts.ran = 0;
        if (actor == null || act < 0 || act >= ACTS) {
            return 0;
        }
        return acts.perform(actor, act, x);
    }

    public int trace(int i) {
        return acts.traced(i);
    }

    public int taken(int person, int k) {
        if (k < 0 || k >= KINDS) {
            return BAD;
        }
        Person one = personAt(person);
        if (one == null) {
            return NOTHING;
        }
        return one.isOf(k) ? one.kind : CAST;
    }

    public int count(int what) {
        switch (what) {
            case 0:
                return peopleCount;
            case 1:
                return floor.n;
            case 2:
                return danced.count;
            case 3:
                return reader.figureCount;
            case 4:
                return reader.length;
            case 5:
                return picture.count;
            case 6:
                return dancing ? 1 : 0;
            case 7:
                return acts.ran;
            default:
                return BAD;
        }
    }

    public int tape(int tape, int sort, int n) {
        Tape one = tapeAt(tape);
        if (one == null) {
            return NONE;
        }
        if (sort == NO_SORT) {
            one.empty();
            return 1;
        }
        if (sort < BYTES || sort > CHARS || n > MOST_ITEMS) {
            return BAD;
        }
        if (n < 0) {
            return SIZE;
        }
        one.become(sort, n);
        return 1;
    }

    public int item(int tape, int i, int v) {
        Tape one = tapeAt(tape);
        if (one == null) {
            return NONE;
        }
        if (one.sort == NO_SORT) {
            return NOTHING;
        }
        if (i < 0 || i >= one.length) {
            return PLACE;
        }
        one.items[i] = one.cut(v);
        return 1;
    }

    public int read(int tape, int i) {
        Tape one = tapeAt(tape);
        if (one == null || i < 0 || i >= one.length) {
            return NO_ITEM;
        }
        return one.items[i];
    }

    public int shift(int tape, int i, int other, int j, int n) {
        Tape from = tapeAt(tape);
        Tape to = tapeAt(other);
        if (from == null || to == null) {
            return NONE;
        }
        if (from.sort == NO_SORT || to.sort == NO_SORT) {
            return NOTHING;
        }
        if (from.sort != to.sort) {
            return CAST;
        }
        if (!from.holds(i, n) || !to.holds(j, n)) {
            return PLACE;
        }
        System.arraycopy(from.items, i, to.items, j, n);
        return n;
    }

    // ---- what the calls share

    private boolean isPlace(int place) {
        return place >= 0 && place < floor.n;
    }

    private static int behind(int place, int n) {
        return place + 1 < n ? place + 1 : 0;
    }

    private static int ahead(int place, int n) {
        return place > 0 ? place - 1 : n - 1;
    }

    private static boolean isColour(int colour) {
        return colour >= 0 && colour < COLOURS;
    }

    private Person personAt(int number) {
        return number >= 0 && number < peopleCount ? people[number] : null;
    }

    private Steps figureOrDance(int number) {
        return number == -1 ? danced : reader.figureAt(number);
    }

    private Tape tapeAt(int number) {
        return number >= 0 && number < TAPES ? tapes[number] : null;
    }

    private boolean standsInRing(int person) {
        for (int place = 0; place < floor.n; place++) {
            if (who[place] == person) {
                return true;
            }
        }
        return false;
    }

    private int doStep(int code) {
        if (!dancing) {
            return STATE;
        }
        int refused = floor.take(code);
        if (refused != 0) {
            return refused;
        }
        if (code >= WALK_ON) {
            cloth.lay(floor);
            floor.unmark();
        }
        danced.add(code);
        return danced.count;
    }

    /** Does a STEP on a trial floor; false if it can't be done or lays a ROW unlike THE CLOTH's. */
    private boolean weaves(Floor on, int code) {
        if (on.take(code) != 0) {
            return false;
        }
        if (code < WALK_ON) {
            return true;
        }
        boolean alike = cloth.isRowOf(on);
        on.unmark();
        return alike;
    }

    private boolean weavesOn(Floor on, Steps steps, int from) {
        for (int k = from; k < steps.count; k++) {
            if (!weaves(on, steps.codes[k])) {
                return false;
            }
        }
        return on.rows == cloth.rows;
    }

    private boolean weavesSlipped(Floor on, int code, int slip) {
        switch (slip) {
            case 0:
                return true;
            case 1:
                return weaves(on, code ^ 1);
            default:
                return weaves(on, code) && weaves(on, code);
        }
    }

    private int explained(Steps steps, int wanted) {
        asTold.copy(start);
        int walksBehind = steps.walksIn();
        int found = 0;
        for (int k = 0; k < steps.count; k++) {
            int code = steps.codes[k];
            walksBehind -= code >= WALK_ON ? 1 : 0;
            for (int slip = 0; slip < 3; slip++) {
                trial.copy(asTold);
                // the count of ROWS is known ahead: it spares most of the trials
                if (weavesSlipped(trial, code, slip) && trial.rows + walksBehind == cloth.rows
                        && weavesOn(trial, steps, k + 1)) {
                    if (found == wanted) {
                        return 10 * k + slip;
                    }
                    found++;
                }
            }
            // every later slip has this STEP as told ahead of it
            if (!weaves(asTold, code)) {
                break;
            }
        }
        return wanted == -1 ? found : NONE;
    }

    /** Seats a set of PEOPLE; 0, or why it can't. */
    private int seatPeople(int bits) {
        int n = floor.n;
        if (n == 0 || n > MOST_ORDERED_PLACES) {
            return STATE;
        }
        if ((bits >>> peopleCount) != 0 || Integer.bitCount(bits) != n) {
            return BAD;
        }
        seating.clear();
        for (int i = 0; i < peopleCount; i++) {
            Person guest = personAt(i);
            if ((bits >>> i & 1) != 0 && guest != null) {
                if (guest.kind == PIPER) {
                    return BAD;
                }
                seating.add(guest);
            }
        }
        seating.seatAll();
        return 0;
    }

    private static final class Person {
        final int number;
        final int kind;
        final int reach;
        final int pace;

        Person(int number, int kind, int reach, int pace) {
            this.number = number;
            this.kind = kind;
            this.reach = reach;
            this.pace = pace;
        }

        boolean isOf(int asked) {
            int at = kind;
            for (int i = 0; i < KINDS && at > DANCER && at != asked; i++) {
                at = KIND_ABOVE[at];
            }
            return at == asked;
        }
    }

    /** The bodies of the ACTS, and THE TRACE of those that ran. */
    private static final class Acts {
        private static final int KEPT = 20;
        private static final int DEEPEST = 40;

        private final int[] bodies = new int[KEPT];
        int ran = 0;

        int traced(int i) {
            return i >= 0 && i < ran && i < KEPT ? bodies[i] : NONE;
        }

        int perform(Person one, int act, int x) {
            return ask(one, one.kind, act, x, 0);
        }

        /** Runs the body of an act that a KIND has, or else the next KIND above it that has one. */
        private int ask(Person one, int kind, int act, int x, int depth) {
            int has = kind;
            for (int i = 0; i < KINDS && has > DANCER && BODIES[ACTS * has + act] == 0; i++) {
                has = KIND_ABOVE[has];
            }
            if (has < DANCER || depth > DEEPEST) {
                return 0;
            }
            int body = BODIES[ACTS * has + act];
            note(body);
            return run(one, body, KIND_ABOVE[has], x, depth + 1);
        }

        private void note(int body) {
            if (ran < KEPT) {
                bodies[ran] = body;
            }
            ran++;
        }

        private int run(Person one, int body, int above, int x, int depth) {
            int own = one.kind;
            switch (body) {
                case 10:
                    return x + one.reach;
                case 11:
                    return ask(one, own, GREETS, x, depth) - one.pace;
                case 12:
                    return ask(one, own, LEADS, x, depth) ^ one.number;
                case 20:
                    return ask(one, above, GREETS, x, depth) - 4;
                case 30:
                    return ask(one, above, LEADS, x, depth) + ask(one, own, GREETS, x, depth);
                case 40:
                    return ask(one, above, GREETS, x * 3, depth);
                case 41:
                    return -ask(one, above, LEADS, x, depth);
                default:
                    return ask(one, own, LEADS, x, depth) + ask(one, above, RESTS, x - 1, depth);
            }
        }
    }

    /** A row of STEPS. */
    private static final class Steps {
        final int[] codes;
        int count = 0;

        Steps(int room) {
            codes = new int[room];
        }

        void clear() {
            count = 0;
        }

        boolean add(int code) {
            if (count >= codes.length) {
                return false;
            }
            codes[count] = code;
            count++;
            return true;
        }

        int codeAt(int i) {
            return i >= 0 && i < count ? codes[i] : NONE;
        }

        int walksIn() {
            int walks = 0;
            for (int i = 0; i < count; i++) {
                if (codes[i] >= WALK_ON) {
                    walks++;
                }
            }
            return walks;
        }

        Steps copied() {
            Steps copy = new Steps(count);
            System.arraycopy(codes, 0, copy.codes, 0, count);
            copy.count = count;
            return copy;
        }
    }

    /** Where the RIBBONS are and what is left of each: all that decides whether a STEP can be done. */
    private static final class Floor {
        int n = 0;
        int steps = 0;
        int rows = 0;
        /** The RIBBON at each PLACE. */
        final int[] order = new int[MOST_PLACES];
        /** By RIBBON. */
        final int[] left = new int[MOST_PLACES];
        /** Of the latest PASS at each PLACE since the latest ROW. */
        final int[] marks = new int[MOST_PLACES];
        private final int[] moved = new int[MOST_PLACES];

        void lay(int places) {
            n = places;
            Arrays.fill(left, 0);
            restart();
        }

        void restart() {
            steps = 0;
            rows = 0;
            callByPlaces();
            unmark();
        }

        void callByPlaces() {
            for (int place = 0; place < MOST_PLACES; place++) {
                order[place] = place;
            }
        }

        void unmark() {
            Arrays.fill(marks, 0);
        }

        void copy(Floor other) {
            n = other.n;
            steps = other.steps;
            rows = other.rows;
            System.arraycopy(other.order, 0, order, 0, MOST_PLACES);
            System.arraycopy(other.left, 0, left, 0, MOST_PLACES);
            System.arraycopy(other.marks, 0, marks, 0, MOST_PLACES);
        }

        /** Turns a row by RIBBON into one by the PLACE where each RIBBON is. */
        void bringToPlaces(int[] row) {
            for (int place = 0; place < n; place++) {
                moved[place] = row[order[place]];
            }
            System.arraycopy(moved, 0, row, 0, n);
        }

        int girthNow() {
            return 10 + rows / 3;
        }

        /** Does a STEP: 0, or why it is not done. The marks of a WALK's ROW stay till unmark(). */
        int take(int code) {
            if (code >= WALK_ON) {
                return takeWalk(code == WALK_ON);
            }
            return takePass(code / 10, code % 10);
        }

        private int takePass(int p, int how) {
            if (p < 0 || p >= n) {
                return STATE;
            }
            int next = behind(p, n);
            int one = order[p];
            int other = order[next];
            int ofOne = how == 0 ? 1 : 2;
            int ofOther = 3 - ofOne;
            if (left[one] < ofOne || left[other] < ofOther) {
                return STATE;
            }
            if (steps >= MOST_STEPS) {
                return FULL;
            }
            steps++;
            left[one] -= ofOne;
            left[other] -= ofOther;
            order[p] = other;
            order[next] = one;
            marks[p] = how + 1;
            return 0;
        }

        private int takeWalk(boolean on) {
            int need = girthNow();
            for (int ribbon = 0; ribbon < n; ribbon++) {
                if (left[ribbon] < need) {
                    return STATE;
                }
            }
            if (steps >= MOST_STEPS || rows >= MOST_ROWS) {
                return FULL;
            }
            steps++;
            rows++;
            for (int place = 0; place < n; place++) {
                left[place] -= need;
                if (on) {
                    moved[behind(place, n)] = order[place];
                } else {
                    moved[place] = order[behind(place, n)];
                }
            }
            System.arraycopy(moved, 0, order, 0, n);
            return 0;
        }
    }

    /** THE CLOTH, with the COLOURS that its RIBBONS had as the DANCE began. */
    private static final class Cloth {
        int n = 0;
        int rows = 0;
        private final int[] ribbons = new int[MOST_ROWS * MOST_PLACES];
        private final int[] marks = new int[MOST_ROWS * MOST_PLACES];
        /** The RIBBON whose COLOUR is TOP. */
        private final int[] tops = new int[MOST_ROWS * MOST_PLACES];
        private final int[] colours = new int[MOST_PLACES];

        void open(int places, int[] colour) {
            n = places;
            rows = 0;
            System.arraycopy(colour, 0, colours, 0, MOST_PLACES);
        }

        boolean has(int row, int place) {
            return row >= 0 && row < rows && place >= 0 && place < n;
        }

        void lay(Floor floor) {
            if (rows >= MOST_ROWS) {
                return;
            }
            System.arraycopy(floor.order, 0, ribbons, MOST_PLACES * rows, n);
            System.arraycopy(floor.marks, 0, marks, MOST_PLACES * rows, n);
            for (int place = 0; place < n; place++) {
                tops[MOST_PLACES * rows + place] = ribbonOnTop(rows, place);
            }
            rows++;
        }

        /** Whether the ROW that a floor's latest WALK lays is the one that lies here. */
        boolean isRowOf(Floor floor) {
            int row = floor.rows - 1;
            if (row < 0 || row >= rows) {
                return false;
            }
            for (int place = 0; place < n; place++) {
                if (ribbonAt(row, place) != floor.order[place] || markAt(row, place) != floor.marks[place]) {
                    return false;
                }
            }
            return true;
        }

        int ribbonAt(int row, int place) {
            return ribbons[MOST_PLACES * row + place];
        }

        int markAt(int row, int place) {
            return marks[MOST_PLACES * row + place];
        }

        private int ribbonOnTop(int row, int place) {
            boolean covered = markAt(row, place) == 1 && markAt(row, ahead(place, n)) != 2;
            return ribbonAt(row, covered ? behind(place, n) : place);
        }

        int topRibbon(int row, int place) {
            return tops[MOST_PLACES * row + place];
        }

        int topAt(int row, int place) {
            return colours[topRibbon(row, place)];
        }

        int leastBeat() {
            for (int b = 1; b < rows; b++) {
                if (beatsBy(b)) {
                    return b;
                }
            }
            return rows;
        }

        private boolean beatsBy(int b) {
            for (int row = b; row < rows; row++) {
                if (!areLike(row, row - b)) {
                    return false;
                }
            }
            return true;
        }

        private boolean areLike(int row, int other) {
            for (int place = 0; place < n; place++) {
                if (topAt(row, place) != topAt(other, place)) {
                    return false;
                }
            }
            return true;
        }
    }

    /** THE PICTURE, and what it asks of COLOURS. */
    private static final class Picture {
        private final int[] rows = new int[MOST_THINGS];
        private final int[] places = new int[MOST_THINGS];
        private final int[] colours = new int[MOST_THINGS];
        int count = 0;
        /** How many things ask for a COLOUR of a RIBBON, by RIBBON and COLOUR. */
        private final int[] asked = new int[MOST_PLACES * COLOURS];
        final int[] chosen = new int[MOST_PLACES];
        int leastWrong = 0;

        boolean tell(int row, int place, int colour) {
            if (count >= MOST_THINGS) {
                return false;
            }
            rows[count] = row;
            places[count] = place;
            colours[count] = colour;
            count++;
            return true;
        }

        int wrongOn(Cloth cloth) {
            int wrong = 0;
            for (int i = 0; i < count; i++) {
                if (!cloth.has(rows[i], places[i]) || cloth.topAt(rows[i], places[i]) != colours[i]) {
                    wrong++;
                }
            }
            return wrong;
        }

        /** Each thing asks for one RIBBON alone, so each RIBBON has its COLOUR by itself. */
        void choose(Cloth cloth, int most) {
            Arrays.fill(asked, 0);
            for (int i = 0; i < count; i++) {
                if (cloth.has(rows[i], places[i])) {
                    asked[COLOURS * cloth.topRibbon(rows[i], places[i]) + colours[i]]++;
                }
            }
            leastWrong = count;
            for (int ribbon = 0; ribbon < cloth.n; ribbon++) {
                chosen[ribbon] = mostAsked(ribbon, most);
                leastWrong -= asked[COLOURS * ribbon + chosen[ribbon]];
            }
        }

        private int mostAsked(int ribbon, int most) {
            int best = 0;
            for (int colour = 1; colour < most; colour++) {
                if (asked[COLOURS * ribbon + colour] > asked[COLOURS * ribbon + best]) {
                    best = colour;
                }
            }
            return best;
        }
    }

    /** THE TEXT, and the FIGURES that were read from it. */
    private static final class Reader {
        private final Steps[] figures = new Steps[MOST_FIGURES];
        int figureCount = 0;
        private final int[] text = new int[MOST_BYTES];
        int length = 0;
        private final Steps out = new Steps(MOST_STEPS);
        boolean tooLong = false;
        /** Where the STEPS of each open ( begin. */
        private final int[] opened = new int[DEEPEST_GROUP];
        private int depth = 0;

        Steps figureAt(int number) {
            return number >= 0 && number < figureCount ? figures[number] : null;
        }

        /** What was read last becomes a FIGURE: its number. */
        int keep() {
            if (figureCount >= MOST_FIGURES) {
                return FULL;
            }
            int number = figureCount;
            figures[number] = out.copied();
            figureCount++;
            return number;
        }

        boolean take(int bytes, int n) {
            if (length + n > MOST_BYTES) {
                return false;
            }
            for (int i = n - 1; i >= 0; i--) {
                text[length] = bytes >>> 8 * i & 255;
                length++;
            }
            return true;
        }

        /** Reads THE TEXT into out: the FAULT, or -1. A text that is too long is read on for its FAULT. */
        int parse() {
            out.clear();
            tooLong = false;
            depth = 0;
            boolean itemAhead = false;
            int i = 0;
            while (i < length) {
                int sign = text[i];
                boolean opens = sign == '(';
                int used = opens ? open() : sign == ')' ? close(i, itemAhead) : single(i);
                if (used <= 0) {
                    return i - used;
                }
                itemAhead = !opens;
                i += used;
            }
            return itemAhead && depth == 0 ? -1 : length;
        }

        private int open() {
            if (depth >= DEEPEST_GROUP) {
                return 0;
            }
            opened[depth] = out.count;
            depth++;
            return 1;
        }

        /** How many bytes are used; 0 or less: minus how many are right ahead of the FAULT. */
        private int close(int i, boolean itemAhead) {
            if (depth == 0 || !itemAhead) {
                return 0;
            }
            int how = signAt(i + 1);
            if (how != '-' && (how < '2' || how > '9')) {
                return -1;
            }
            depth--;
            if (how == '-') {
                undoFrom(opened[depth]);
            } else {
                repeatFrom(opened[depth], how - '0');
            }
            return 2;
        }

        private int single(int i) {
            int sign = text[i];
            if (sign >= '0' && sign <= '9') {
                int way = signAt(i + 1);
                if (way != '<' && way != '>') {
                    return -1;
                }
                put(10 * (sign - '0') + (way == '<' ? 0 : 1));
                return 2;
            }
            if (sign == 'w' || sign == 'v') {
                put(sign == 'w' ? WALK_ON : WALK_ON + 1);
                return 1;
            }
            Steps figure = figureAt(sign - 'A');
            if (figure == null) {
                return 0;
            }
            putAll(figure);
            return 1;
        }

        private int signAt(int i) {
            return i < length ? text[i] : -1;
        }

        private void put(int code) {
            if (!out.add(code)) {
                tooLong = true;
            }
        }

        private void putAll(Steps steps) {
            for (int i = 0; i < steps.count; i++) {
                put(steps.codes[i]);
            }
        }

        private void repeatFrom(int from, int times) {
            int to = out.count;
            for (int again = 1; again < times && !tooLong; again++) {
                for (int i = from; i < to; i++) {
                    put(out.codes[i]);
                }
            }
        }

        private void undoFrom(int from) {
            int low = from;
            int high = out.count - 1;
            while (low <= high) {
                int code = out.codes[low];
                out.codes[low] = out.codes[high] ^ 1;
                out.codes[high] = code ^ 1;
                low++;
                high--;
            }
        }
    }

    /** THE FORM of a row of STEPS. */
    private static final class Form {
        /** Behind every PASS: there is none at that PLACE any more. */
        private static final int ENDED = MOST_STEPS;

        int turns = 0;
        int count = 0;
        final int[] passes = new int[MOST_STEPS];
        /** The PASSES as they come, -1 for one that was left out. */
        private final int[] word = new int[MOST_STEPS];
        private int wordLength = 0;
        /** From a PASS to the one at the same PLACE: first the one ahead of it, then the one behind. */
        private final int[] link = new int[MOST_STEPS];
        /** The latest PASS at each PLACE, then the first that is not told yet. */
        private final int[] edge = new int[MOST_PLACES];

        /** False if a PASS is at no PLACE of the ring. */
        boolean cutDown(Steps steps, int n) {
            turns = 0;
            wordLength = 0;
            Arrays.fill(edge, -1);
            for (int i = 0; i < steps.count; i++) {
                int code = steps.codes[i];
                if (code >= WALK_ON) {
                    turns += code == WALK_ON ? 1 : -1;
                } else if (code / 10 < n) {
                    meet(Math.floorMod(code / 10 - turns, n), code % 10, n);
                } else {
                    return false;
                }
            }
            linkForward();
            putInOrder(n);
            return true;
        }

        /** A PASS meets the latest one at its PLACE if all since then are FAR from it. */
        private void meet(int p, int how, int n) {
            int latest = edge[p];
            if (latest >= 0 && word[latest] % 10 != how
                    && edge[behind(p, n)] < latest && edge[ahead(p, n)] < latest) {
                edge[p] = link[latest];
                word[latest] = -1;
                return;
            }
            word[wordLength] = 10 * p + how;
            link[wordLength] = latest;
            edge[p] = wordLength;
            wordLength++;
        }

        private void linkForward() {
            Arrays.fill(edge, ENDED);
            for (int i = wordLength - 1; i >= 0; i--) {
                if (word[i] >= 0) {
                    int p = word[i] / 10;
                    link[i] = edge[p];
                    edge[p] = i;
                }
            }
        }

        private void putInOrder(int n) {
            count = 0;
            for (int i = 0; i < wordLength; i++) {
                int p = leastFree(n);
                if (p >= n) {
                    return;
                }
                int first = edge[p];
                passes[count] = word[first];
                count++;
                edge[p] = link[first];
            }
        }

        /** The least PLACE whose next PASS can come first of all that are left; n if none is left. */
        private int leastFree(int n) {
            for (int p = 0; p < n; p++) {
                int first = edge[p];
                if (first < ENDED && edge[behind(p, n)] > first && edge[ahead(p, n)] > first) {
                    return p;
                }
            }
            return n;
        }

        boolean isLike(Form other) {
            if (turns != other.turns || count != other.count) {
                return false;
            }
            for (int i = 0; i < count; i++) {
                if (passes[i] != other.passes[i]) {
                    return false;
                }
            }
            return true;
        }
    }

    /** FEWEST: the PASSES that bring the RIBBONS to a told order. */
    private static final class Orders {
        private static final int UNTOLD = -1;
        private static final int MOST_PASSES = 40;

        /** By RIBBON: the PLACE to which it must come. */
        private final int[] goal = new int[MOST_PLACES];
        /** By PLACE: the PLACE to which what is there must come. */
        private final int[] row = new int[MOST_PLACES];
        /** By PLACE: how many PLACES on (below 0: back) what is there goes. */
        private final int[] way = new int[MOST_PLACES];
        final int[] path = new int[MOST_PASSES];
        int count = 0;

        /** False if the told order has not each RIBBON once. */
        boolean ask(Floor floor, int[] told) {
            Arrays.fill(goal, UNTOLD);
            for (int place = 0; place < floor.n; place++) {
                int ribbon = told[place];
                if (ribbon < 0 || ribbon >= floor.n || goal[ribbon] != UNTOLD) {
                    return false;
                }
                goal[ribbon] = place;
            }
            for (int place = 0; place < floor.n; place++) {
                row[place] = goal[floor.order[place]];
            }
            return true;
        }

        /** Takes at each PASS the least PLACE that brings the row nearer. */
        void search(int n) {
            count = 0;
            int left = passesLeft(n);
            while (left > 0 && count < MOST_PASSES) {
                left--;
                path[count] = nearer(left, n);
                count++;
            }
        }

        private int nearer(int left, int n) {
            for (int p = 0; p < n; p++) {
                swap(p, n);
                if (passesLeft(n) == left) {
                    return p;
                }
                swap(p, n);
            }
            return NONE;
        }

        private void swap(int p, int n) {
            int next = behind(p, n);
            int one = row[p];
            row[p] = row[next];
            row[next] = one;
        }

        /**
         * Once it is settled which way round each one goes, any two must pass one another as often as
         * the ways tell, and no more: so often as their distance, unrolled, goes across whole rounds.
         */
        private int passesLeft(int n) {
            settleWays(n);
            int sum = 0;
            for (int i = 0; i < n; i++) {
                for (int j = i + 1; j < n; j++) {
                    sum += Math.abs(Math.floorDiv(j + way[j] - i - way[i], n));
                }
            }
            return sum;
        }

        /** The ways add up to 0; they are shortest when no two are more than a round apart. */
        private void settleWays(int n) {
            for (int i = 0; i < n; i++) {
                way[i] = row[i] - i;
            }
            for (int times = 0; times < n; times++) {
                int most = 0;
                int least = 0;
                for (int i = 1; i < n; i++) {
                    most = way[i] > way[most] ? i : most;
                    least = way[i] < way[least] ? i : least;
                }
                if (way[most] - way[least] <= n) {
                    return;
                }
                way[most] -= n;
                way[least] += n;
            }
        }
    }

    /** SET: a set of PEOPLE in a round. */
    private static final class Seating {
        private static final int MORE_THAN_ANY = 1000000;

        private int n = 0;
        private final int[] numbers = new int[MOST_ORDERED_PLACES];
        private final int[] reaches = new int[MOST_ORDERED_PLACES];
        private final int[] paces = new int[MOST_ORDERED_PLACES];
        private final int[] row = new int[MOST_ORDERED_PLACES];
        private final int[] best = new int[MOST_ORDERED_PLACES];
        /** The PACES by PLACE, in a FIGURE. */
        private final int[] moving = new int[MOST_ORDERED_PLACES];
        int leastSum = 0;

        void clear() {
            n = 0;
        }

        /** To be called in the order of numbers: so the first row found is the first by numbers. */
        void add(Person guest) {
            if (n < MOST_ORDERED_PLACES) {
                numbers[n] = guest.number;
                reaches[n] = guest.reach;
                paces[n] = guest.pace;
                n++;
            }
        }

        /** A round that is turned has the same sum: so the first row begins with the least number. */
        void seatAll() {
            leastSum = MORE_THAN_ANY;
            row[0] = 0;
            seatFrom(1, 0, 1);
        }

        /** Those that are seated already are told as bits. */
        private void seatFrom(int place, int sum, int seated) {
            if (place >= n) {
                // the way home was in what was tested ahead of this
                leastSum = sum + apart(row[place - 1], row[0]);
                System.arraycopy(row, 0, best, 0, n);
                return;
            }
            for (int guest = 1; guest < n; guest++) {
                int more = sum + apart(row[place - 1], guest);
                if ((seated >>> guest & 1) == 0 && more + apart(guest, row[0]) < leastSum) {
                    row[place] = guest;
                    seatFrom(place + 1, more, seated | 1 << guest);
                }
            }
        }

        private int apart(int one, int other) {
            return Math.abs(reaches[one] - reaches[other]);
        }

        int numberAt(int place) {
            return numbers[best[place]];
        }

        /** SPENT, or STATE if a PASS is at no PLACE. */
        int spentIn(Steps steps) {
            for (int place = 0; place < n; place++) {
                moving[place] = paces[best[place]];
            }
            int sum = 0;
            for (int i = 0; i < steps.count; i++) {
                int code = steps.codes[i];
                if (code >= WALK_ON) {
                    sum += greatestPace();
                    turn(code == WALK_ON);
                } else if (code / 10 < n) {
                    sum += change(code / 10);
                } else {
                    return STATE;
                }
            }
            return sum;
        }

        private int greatestPace() {
            int greatest = 0;
            for (int guest = 0; guest < n; guest++) {
                greatest = Math.max(greatest, paces[guest]);
            }
            return greatest;
        }

        private void turn(boolean on) {
            if (n < 1) {
                return;
            }
            if (on) {
                int last = moving[n - 1];
                System.arraycopy(moving, 0, moving, 1, n - 1);
                moving[0] = last;
            } else {
                int first = moving[0];
                System.arraycopy(moving, 1, moving, 0, n - 1);
                moving[n - 1] = first;
            }
        }

        /** Two change places: both their PACES. */
        private int change(int p) {
            int next = behind(p, n);
            int one = moving[p];
            moving[p] = moving[next];
            moving[next] = one;
            return one + moving[p];
        }
    }

    /** A TAPE; its items are held as numbers, cut to their sort as they come. */
    private static final class Tape {
        int sort = NO_SORT;
        int length = 0;
        final int[] items = new int[MOST_ITEMS];

        void empty() {
            sort = NO_SORT;
            length = 0;
        }

        void become(int newSort, int n) {
            sort = newSort;
            length = n;
            Arrays.fill(items, 0);
        }

        int cut(int v) {
            switch (sort) {
                case BYTES:
                    return (byte) v;
                case SHORTS:
                    return (short) v;
                case BOOLEANS:
                    return v != 0 ? 1 : 0;
                case CHARS:
                    return (char) v;
                default:
                    return v;
            }
        }

        boolean holds(int i, int n) {
            return n >= 0 && i >= 0 && n <= length && i <= length - n;
        }
    }
}
