/** Parts 7 and 8 of the terms, and the promises 31 to 38: ACTS, TAPES. */
final class ActSentences {
    /** One of each KIND, and a DANCER whose number is not 0. */
    private static final String PEOPLE = """
        person(0, 5, 3); person(1, 9, 2); person(2, 4, 8); person(3, 12, 1); person(4, 7, 7); person(0, 6, 5)
        """;

    private ActSentences() {
    }

    static void tell(Sentences s) {
        termsOfBodies(s);
        termsOfTrace(s);
        termsOfTapes(s);
        act(s);
        taken(s);
        count(s);
        tape(s);
        item(s);
        shift(s);
    }

    private static void termsOfBodies(Sentences s) {
        s.holds("Terms 7", "ACTS of PEOPLE by KIND, with x (wrapping): 0 greets, 1 leads, 2 rests; i the number, r the "
            + "REACH, a the PACE.", PEOPLE + """
            act(5, 0, 10) = 16; act(5, 1, 10) = 11; act(5, 2, 10) = 14
            act(0, 0, MAX) = -2147483644; act(0, 0, MIN) = -2147483643; act(4, 1, MIN) = MIN; act(4, 1, MAX) = MAX
            act(1, 1, MIN) = -2147483645; person(0, 1, 9) = 6; act(6, 1, MIN) = 2147483640
            act(3, 0, MAX) = -2147483639; act(3, 0, 0x55555556) = 14; act(4, 2, MIN) = -5
            """);
        s.holds("Terms 7", "BODIES: DANCER: 10 greets: x + r.", PEOPLE + """
            act(0, 0, 10) = 15; trace(*) = 10 -1; act(5, 0, -6) = 0; trace(*) = 10 -1
            """);
        s.holds("Terms 7", "11 leads: greets(x) - a.", PEOPLE + """
            act(0, 1, 10) = 12; trace(*) = 11 10 -1; act(5, 1, -6) = -5; trace(*) = 11 10 -1
            """);
        s.holds("Terms 7", "12 rests: leads(x) ^ i.", PEOPLE + """
            act(0, 2, 10) = 12; trace(*) = 12 11 10 -1; act(5, 2, -7) = -1; act(5, 2, -6) = -2; trace(*) = 12 11 10 -1
            """);
        s.holds("Terms 7", "CHILD: 20 greets: super.greets(x) - 4.", PEOPLE + """
            act(1, 0, 10) = 15; trace(*) = 20 10 -1
            act(1, 1, 10) = 13; trace(*) = 11 20 10 -1; act(1, 2, 10) = 12; trace(*) = 12 11 20 10 -1
            """);
        s.holds("Terms 7", "LEADER: 30 leads: super.leads(x) + greets(x).", PEOPLE + """
            act(2, 1, 10) = 20; trace(*) = 30 11 10 10 -1
            act(2, 0, 10) = 14; trace(*) = 10 -1; act(2, 2, 10) = 22; trace(*) = 12 30 11 10 10 -1
            """);
        s.holds("Terms 7", "FOOL: 40 greets: super.greets(x * 3).", PEOPLE + """
            act(3, 0, 10) = 42; trace(*) = 40 10 -1; act(3, 0, -4) = 0; act(3, 0, 0) = 12
            """);
        s.holds("Terms 7", "41 leads: -super.leads(x).", PEOPLE + """
            act(3, 1, 10) = -83; trace(*) = 41 30 11 40 10 40 10 -1; act(3, 2, 10) = -82
            person(3, 1, 2) = 6; act(6, 1, 0x40000000) = MIN      # less MIN is MIN
            """);
        s.holds("Terms 7", "PIPER: 50 rests: leads(x) + super.rests(x - 1).", PEOPLE + """
            act(4, 2, 10) = 23; trace(*) = 50 11 10 12 11 10 -1; act(4, 2, 0) = -5
            act(4, 0, 10) = 17; act(4, 1, 10) = 10; trace(*) = 11 10 -1
            """);
    }

    private static void termsOfTrace(Sentences s) {
        s.holds("Terms 7", "greets(..) and so on: the body of its KIND, or, if that has none, of the next KIND above that "
            + "has one", PEOPLE + """
            act(1, 1, 0) = 3; trace(*) = 11 20 10 -1      # a CHILD's own greets, in a body of the DANCER
            act(3, 1, 0) = -23; trace(*) = 41 30 11 40 10 40 10 -1    # a FOOL's own, in bodies of those above
            act(2, 0, 0) = 4; trace(*) = 10 -1; act(3, 2, 0) = -22; trace(*) = 12 41 30 11 40 10 40 10 -1
            act(4, 0, 0) = 7; trace(*) = 10 -1; act(4, 1, 0) = 0; trace(*) = 11 10 -1
            """);
        s.holds("Terms 7", "super.greets(..): so from the KIND above the body's on", PEOPLE + """
            act(1, 0, 0) = 5; trace(*) = 20 10 -1
            act(3, 0, 1) = 15; trace(*) = 40 10 -1        # the LEADER has none: the DANCER's
            act(3, 1, 1) = -29; trace(*) = 41 30 11 40 10 40 10 -1    # 30: from the body's KIND, not from the FOOL's
            act(4, 2, 1) = 5; trace(*) = 50 11 10 12 11 10 -1
            """);
        s.holds("Terms 7", "all that stands in a body is done from the left on.", PEOPLE + """
            act(2, 1, 1) = 2; trace(*) = 30 11 10 10 -1; act(4, 2, 1) = 5; trace(*) = 50 11 10 12 11 10 -1
            act(3, 1, 1) = -29; trace(2) = 11; trace(5) = 40
            """);
        s.holds("Terms 7", "THE TRACE: the numbers of the bodies that ran in the latest act(), as they began", PEOPLE + """
            trace(0) = -1; act(3, 2, 1); trace(*) = 12 41 30 11 40 10 40 10 -1
            act(0, 0, 1); trace(*) = 10 -1; count(7) = 1; act(1, 0, 1); trace(*) = 20 10 -1
            """);
        s.holds("Terms 7", "the first 20 are kept.", PEOPLE + """
            act(3, 2, 7); count(7) = 8; trace(*) = 12 41 30 11 40 10 40 10 -1     # no act runs more than these
            """);
    }

    private static void termsOfTapes(Sentences s) {
        s.holds("Terms 8", "TAPES 0 .. 5 hold nothing (at first)", """
            item(*, 0, 1) = -11 -11 -11 -11 -11 -11 -1; item(-1, 0, 1) = -1
            read(0, 0) = -1000000000; read(5, 0) = -1000000000; shift(0, 0, 5, 0, 0) = -11
            tape(5, 0, 1) = 1; tape(6, 0, 1) = -1; tape(-1, 0, 1) = -1; item(*, 0, 1) = -11 -11 -11 -11 -11 1 -1
            """);
        s.holds("Terms 8", "or a row of 0 bytes, 1 shorts, 2 ints, 3 booleans (items 0, 1), 4 chars (items 0 .. 65535).", """
            tape(0, 0, 5); item(0, 0, 127); item(0, 1, 128); item(0, 2, 255); item(0, 3, 256); item(0, 4, -129)
            read(0, *) = 127 -128 -1 0 127 -1000000000
            tape(1, 1, 5); item(1, 0, 32767); item(1, 1, 32768); item(1, 2, 65535); item(1, 3, 65536); item(1, 4, -32769)
            read(1, *) = 32767 -32768 -1 0 32767 -1000000000
            tape(2, 2, 3); item(2, 0, MAX); item(2, 1, MIN); item(2, 2, 65536); read(2, *) = MAX MIN 65536 -1000000000
            tape(3, 3, 5); item(3, 0, 1); item(3, 1, 2); item(3, 2, -1); item(3, 3, 256); item(3, 4, 0)
            read(3, *) = 1 1 1 1 0 -1000000000
            tape(4, 4, 4); item(4, 0, 65535); item(4, 1, 65536); item(4, 2, -1); item(4, 3, MIN)
            read(4, *) = 65535 0 65535 0 -1000000000
            tape(5, 5, 1) = -2; tape(5, -2, 1) = -2
            """);
        s.holds("Terms 8", "The host's refusals: NOTHING (-11): nothing is there", """
            ! item(0, 0, 0) = -11; ! shift(0, 0, 1, 0, 0) = -11; ! taken(0, 0) = -11; ring(3); ! fewest(0, -1) = -11
            """);
        s.holds("Terms 8", "CAST (-12): another sort or KIND", """
            tape(0, 0, 3); tape(1, 1, 3); person(4, 1, 1); ring(3)
            ! shift(0, 0, 1, 0, 0) = -12; ! taken(0, 1) = -12; ! fewest(1, -1) = -12; ! stand(0, 0) = -12
            """);
        s.holds("Terms 8", "PLACE (-13): no such place", """
            tape(0, 0, 3); ring(4); ! item(0, 3, 0) = -13; ! shift(0, 0, 0, 0, 4) = -13; ! fewest(0, -1) = -13
            """);
        s.holds("Terms 8", "SIZE (-14): a size below 0.", """
            ! tape(0, 0, -1) = -14; tape(0, 0, 0) = 1; ! tape(0, 2, MIN) = -14
            """);
    }

    private static void act(Sentences s) {
        s.holds("Promise 31: act", "An ACT of a PERSON's KIND with x.", PEOPLE + """
            act(0, 0, 1) = 6; act(0, 1, 1) = 3; act(0, 2, 1) = 3; act(1, 0, 1) = 6; act(1, 1, 1) = 4; act(1, 2, 1) = 5
            act(2, 0, 1) = 5; act(2, 1, 1) = 2; act(2, 2, 1) = 0; act(3, 0, 1) = 15; act(3, 1, 1) = -29
            act(3, 2, 1) = -32; act(4, 0, 1) = 8; act(4, 1, 1) = 1; act(4, 2, 1) = 5; act(5, 2, 1) = 7
            """);
        s.holds("Promise 31: act", "0, and no TRACE then: no such PERSON, act.", """
            act(0, 0, 5) = 0; trace(0) = -1; person(0, 5, 3)
            act(0, 0, 5) = 10; act(1, 0, 5) = 0; trace(0) = -1; count(7) = 0
            act(0, 0, 5) = 10; act(-1, 0, 5) = 0; trace(0) = -1; count(7) = 0
            act(0, 0, 5) = 10; act(0, 3, 5) = 0; trace(0) = -1; count(7) = 0
            act(0, 0, 5) = 10; act(0, -1, 5) = 0; trace(0) = -1; count(7) = 0
            act(MIN, 0, 5) = 0; act(MAX, 0, 5) = 0; act(0, MIN, 5) = 0; act(0, MAX, 5) = 0; act(15, 0, 5) = 0
            act(0, 2, 5) = 7; count(7) = 3
            """);
        s.holds("Promise 32: trace", "THE TRACE's i-th body.", PEOPLE + """
            act(2, 2, 1); trace(*) = 12 30 11 10 10 -1; trace(0) = 12; ring(3); count(0) = 6; trace(1) = 30
            """);
        s.holds("Promise 32: trace", "NONE.", """
            trace(0) = -1; trace(-1) = -1; person(0, 5, 3); act(0, 1, 1); trace(1) = 10; trace(2) = -1; trace(-1) = -1
            trace(MIN) = -1; trace(MAX) = -1; trace(19) = -1; trace(20) = -1; act(0, 5, 1); trace(0) = -1
            """);
    }

    private static void taken(Sentences s) {
        s.holds("Promise 33: taken", "A PERSON taken for one of KIND k (0 .. 4), or one under that (also by others "
            + "between): the KIND.", PEOPLE + """
            taken(0, 0) = 0; taken(1, 0) = 1; taken(1, 1) = 1; taken(2, 0) = 2; taken(2, 2) = 2
            taken(3, 0) = 3; taken(3, 2) = 3; taken(3, 3) = 3; taken(4, 0) = 4; taken(4, 4) = 4; taken(5, 0) = 0
            """);
        s.holds("Promise 33: taken", "BAD: k", PEOPLE + """
            ! taken(0, -1) = -2; ! taken(0, 5) = -2; ! taken(4, 5) = -2; ! taken(0, MIN) = -2; ! taken(0, MAX) = -2
            ! taken(6, 5) = -2; ! taken(-1, -1) = -2      # named ahead of NOTHING
            """);
        s.holds("Promise 33: taken", "NOTHING: no such PERSON", """
            ! taken(0, 0) = -11; person(0, 1, 1); ! taken(1, 0) = -11; ! taken(-1, 0) = -11; ! taken(MIN, 4) = -11
            ! taken(MAX, 4) = -11; ! taken(15, 0) = -11; taken(0, 0) = 0
            """);
        s.holds("Promise 33: taken", "CAST.", PEOPLE + """
            taken(0, *) = 0 -12 -12 -12 -12 -2; taken(1, *) = 1 1 -12 -12 -12 -2; taken(2, *) = 2 -12 2 -12 -12 -2
            taken(3, *) = 3 -12 3 3 -12 -2; taken(4, *) = 4 -12 -12 -12 4 -2; ! taken(2, 3) = -12
            """);
    }

    private static void count(Sentences s) {
        s.holds("Promise 34: count", "How many: 0 PEOPLE", """
            count(0) = 0; person(0, 1, 1); count(0) = 1; person(9, 1, 1); count(0) = 1; 14 * person(4, 1, 1); count(0) = 15
            person(0, 1, 1); count(0) = 15; ring(3); count(0) = 15
            """);
        s.holds("Promise 34: count", "1 n", """
            count(1) = 0; ring(2); count(1) = 0; ring(9); count(1) = 9; ring(3); count(1) = 3; ring(10); count(1) = 3
            """);
        s.holds("Promise 34: count", "2 STEPS of THE DANCE", """
            count(2) = 0; dance of 3 with 11; count(2) = 0; pass(0, 1); count(2) = 1; walk(0); count(2) = 1; pass(0, 1)
            count(2) = 2; end(); count(2) = 2; begin(); count(2) = 0; pass(1, 0); end(); ring(4); count(2) = 0
            """);
        s.holds("Promise 34: count", "3 FIGURES", """
            count(3) = 0; figure "w"; count(3) = 1; figure "x"; count(3) = 1; figure "A"; count(3) = 2
            """);
        s.holds("Promise 34: count", "4 bytes of THE TEXT", """
            count(4) = 0; feed(0, 3); count(4) = 3; feed(0, 0); count(4) = 3; feed(0, 5); count(4) = 3; figure(); count(4) = 0
            20 * feed(0, 4); count(4) = 80; feed(0, 1); count(4) = 80
            """);
        s.holds("Promise 34: count", "5 things of THE PICTURE", """
            count(5) = 0; picture(0, 0, 0); count(5) = 1; picture(0, 0, 8); count(5) = 1; 40 * picture(0, 0, 0); count(5) = 40
            pictureless(); count(5) = 0
            """);
        s.holds("Promise 34: count", "6 whether there is a DANCE (1, 0)", """
            count(6) = 0; ring of 3 with 5; count(6) = 0; begin(); count(6) = 1; begin(); count(6) = 1; end(); count(6) = 0
            ring(4); begin(); count(6) = 0
            """);
        s.holds("Promise 34: count", "7 bodies that ran in the latest act().", PEOPLE + """
            count(7) = 0; act(3, 2, 0); count(7) = 8; act(0, 0, 0); count(7) = 1; act(4, 2, 0); count(7) = 6
            act(9, 0, 0); count(7) = 0; act(2, 1, 0); count(7) = 4
            """);
        s.holds("Promise 34: count", "BAD.", """
            ! count(-1) = -2; ! count(8) = -2; ! count(MIN) = -2; ! count(MAX) = -2; count(0) = 0; count(7) = 0
            """);
    }

    private static void tape(Sentences s) {
        s.holds("Promise 35: tape", "A TAPE becomes a row of n (0 .. 60) of a sort, all 0", """
            tape(0, 0, 60) = 1; read(0, 0) = 0; read(0, 59) = 0; read(0, 60) = -1000000000
            item(0, 0, 7); item(0, 59, 7); tape(0, 0, 60) = 1; read(0, 0) = 0; read(0, 59) = 0
            item(0, 1, 7); tape(0, 2, 2) = 1; read(0, *) = 0 0 -1000000000; item(0, 0, 65536); read(0, 0) = 65536
            tape(5, 4, 0) = 1; read(5, 0) = -1000000000; item(5, 0, 1) = -13; tape(5, 3, 1) = 1; read(5, *) = 0 -1000000000
            """);
        s.holds("Promise 35: tape", "or holds nothing (sort -1: n does not matter): 1.", """
            tape(0, 0, 3); tape(0, -1, 5) = 1; item(0, 0, 1) = -11; read(0, 0) = -1000000000
            tape(0, -1, -1) = 1; tape(0, -1, 61) = 1; tape(0, -1, MIN) = 1; tape(0, -1, MAX) = 1; item(0, 0, 1) = -11
            """);
        s.holds("Promise 35: tape", "NONE: tape", """
            ! tape(-1, 0, 3) = -1; ! tape(6, 0, 3) = -1; ! tape(MIN, 0, 3) = -1; ! tape(MAX, 0, 3) = -1
            ! tape(6, -1, 3) = -1; ! tape(6, 5, 3) = -1; ! tape(6, 0, 61) = -1; ! tape(6, 0, -1) = -1
            tape(0, 0, 3) = 1; tape(5, 0, 3) = 1
            """);
        s.holds("Promise 35: tape", "BAD: sort, n above 60", """
            tape(0, 2, 3); item(0, 1, 7)
            ! tape(0, 5, 3) = -2; ! tape(0, -2, 3) = -2; ! tape(0, MIN, 3) = -2; ! tape(0, MAX, 3) = -2
            ! tape(0, 0, 61) = -2; ! tape(0, 4, MAX) = -2
            ! tape(0, 5, -1) = -2; ! tape(0, -2, -1) = -2 # named ahead of SIZE
            read(0, 1) = 7; tape(0, 4, 60) = 1
            """);
        s.holds("Promise 35: tape", "SIZE.", """
            tape(0, 2, 3); item(0, 1, 7); ! tape(0, 0, -1) = -14; ! tape(0, 4, MIN) = -14; read(0, 1) = 7; tape(0, 0, 0) = 1
            """);
    }

    private static void item(Sentences s) {
        s.holds("Promise 36: item", "Item i of a TAPE becomes v (its lowest bits, as many as an item has; booleans: whether "
            + "v is not 0): 1.", """
            tape(0, 0, 3); item(0, 0, 200) = 1; item(0, 2, 0x1234567f) = 1; read(0, *) = -56 0 127 -1000000000
            tape(1, 1, 2); item(1, 0, 0x1234ffff) = 1; item(1, 1, 0x12347fff) = 1; read(1, *) = -1 32767 -1000000000
            tape(2, 2, 2); item(2, 0, MIN) = 1; item(2, 1, -1000000000) = 1; read(2, *) = MIN -1000000000
            tape(3, 3, 3); item(3, 0, 256) = 1; item(3, 1, 0) = 1; item(3, 2, MIN) = 1; read(3, *) = 1 0 1 -1000000000
            item(3, 0, 0) = 1; read(3, 0) = 0
            tape(4, 4, 2); item(4, 0, -1) = 1; item(4, 1, 0x12340007) = 1; read(4, *) = 65535 7 -1000000000
            """);
        s.holds("Promise 36: item", "NONE", """
            ! item(-1, 0, 0) = -1; ! item(6, 0, 0) = -1; ! item(MIN, 0, 0) = -1; ! item(MAX, -1, 0) = -1
            tape(5, 0, 1); item(5, 0, 1) = 1
            """);
        s.holds("Promise 36: item", "NOTHING", """
            ! item(0, 0, 1) = -11; ! item(0, -1, 1) = -11; ! item(0, 60, 1) = -11     # named ahead of PLACE
            tape(0, 0, 1); item(0, 0, 1) = 1; tape(0, -1, 0); ! item(0, 0, 1) = -11
            """);
        s.holds("Promise 36: item", "PLACE", """
            tape(0, 0, 3); ! item(0, 3, 1) = -13; ! item(0, -1, 1) = -13; ! item(0, MIN, 1) = -13; ! item(0, MAX, 1) = -13
            item(0, 2, 1) = 1; tape(0, 0, 0); ! item(0, 0, 1) = -13; tape(0, 0, 60); item(0, 59, 1) = 1
            ! item(0, 60, 1) = -13
            """);
        s.holds("Promise 37: read", "Item i of a TAPE.", """
            order 0 tells 5 -6 7; read(0, *) = 5 -6 7 -1000000000; tape(5, 4, 60); item(5, 59, 65535); read(5, 59) = 65535
            """);
        s.holds("Promise 37: read", "-1000000000: no such TAPE, nothing there, no such place.", """
            read(-1, 0) = -1000000000; read(6, 0) = -1000000000; read(MIN, 0) = -1000000000; read(MAX, 0) = -1000000000
            read(0, 0) = -1000000000; read(0, -1) = -1000000000; tape(0, 0, 60); tape(0, -1, 60); read(0, 0) = -1000000000
            tape(0, 0, 3); read(0, 2) = 0; read(0, 3) = -1000000000; read(0, -1) = -1000000000
            read(0, MIN) = -1000000000; read(0, MAX) = -1000000000; tape(1, 0, 0); read(1, 0) = -1000000000
            """);
    }

    private static void shift(Sentences s) {
        s.holds("Promise 38: shift", "n items of a TAPE from i on come to another one (or the same) from j on, as they all "
            + "were before: n.", """
            order 0 tells 1 2 3 4 5; order 1 tells 9 9 9; shift(0, 1, 1, 0, 2) = 2
            read(1, *) = 2 3 9 -1000000000; read(0, *) = 1 2 3 4 5 -1000000000
            shift(0, 0, 0, 1, 4) = 4; read(0, *) = 1 1 2 3 4 -1000000000      # the same, on
            order 0 tells 1 2 3 4 5; shift(0, 1, 0, 0, 4) = 4; read(0, *) = 2 3 4 5 5 -1000000000     # and back
            shift(0, 0, 0, 0, 5) = 5; read(0, *) = 2 3 4 5 5 -1000000000
            shift(0, 0, 1, 0, 0) = 0; shift(0, 5, 1, 3, 0) = 0; read(1, *) = 2 3 9 -1000000000
            tape(2, 2, 60); item(2, 59, MIN); tape(3, 2, 60); shift(2, 0, 3, 0, 60) = 60; read(3, 59) = MIN; read(2, 59) = MIN
            """);
        s.holds("Promise 38: shift", "NONE: tapes", """
            tape(0, 0, 3); tape(5, 0, 3)
            ! shift(-1, 0, 0, 0, 1) = -1; ! shift(6, 0, 0, 0, 1) = -1; ! shift(0, 0, -1, 0, 1) = -1
            ! shift(0, 0, 6, 0, 1) = -1; ! shift(MIN, 0, 0, 0, 1) = -1; ! shift(0, 0, MAX, 0, 1) = -1
            ! shift(1, 0, 6, 0, 1) = -1; ! shift(6, 0, 1, 0, 1) = -1  # named ahead of NOTHING
            ! shift(0, -1, 6, 0, 1) = -1; shift(0, 0, 5, 0, 3) = 3    # and of PLACE
            """);
        s.holds("Promise 38: shift", "NOTHING", """
            tape(0, 0, 3); ! shift(0, 0, 1, 0, 1) = -11; ! shift(1, 0, 0, 0, 1) = -11; ! shift(1, 0, 1, 0, 0) = -11
            ! shift(0, 0, 1, 0, -1) = -11; ! shift(1, -1, 0, 9, 1) = -11      # named ahead of PLACE
            tape(0, -1, 0); ! shift(0, 0, 0, 0, 0) = -11
            """);
        s.holds("Promise 38: shift", "CAST: of unlike sorts", """
            tape(0, 0, 3); tape(1, 1, 3); tape(2, 2, 3); tape(3, 3, 3); tape(4, 4, 3); tape(5, 4, 3)
            ! shift(0, 0, 1, 0, 1) = -12; ! shift(1, 0, 2, 0, 1) = -12; ! shift(2, 0, 3, 0, 1) = -12
            ! shift(3, 0, 4, 0, 1) = -12; ! shift(4, 0, 1, 0, 1) = -12; ! shift(0, 0, 3, 0, 0) = -12
            ! shift(0, -1, 1, 0, 1) = -12; ! shift(0, 0, 1, 0, 4) = -12       # named ahead of PLACE
            shift(4, 0, 5, 0, 3) = 3
            """);
        s.holds("Promise 38: shift", "PLACE: n, i or j is below 0, or beyond either's end.", """
            order 0 tells 1 2 3; order 1 tells 4 5 6 7 8
            ! shift(0, 0, 1, 0, -1) = -13; ! shift(0, -1, 1, 0, 1) = -13; ! shift(0, 0, 1, -1, 1) = -13
            ! shift(0, 0, 1, 0, 4) = -13; ! shift(0, 1, 1, 0, 3) = -13; ! shift(0, 3, 1, 0, 1) = -13
            ! shift(1, 0, 0, 0, 4) = -13; ! shift(1, 0, 0, 1, 3) = -13; ! shift(1, 0, 0, 3, 1) = -13
            ! shift(0, 4, 1, 0, 0) = -13; ! shift(0, 0, 1, 6, 0) = -13; ! shift(0, 0, 1, 0, MIN) = -13
            ! shift(0, MAX, 1, 0, 1) = -13; ! shift(0, 1, 1, 0, MAX) = -13; ! shift(0, MAX, 1, MAX, MAX) = -13
            ! shift(0, 0, 1, MAX, 1) = -13; ! shift(0, 2, 0, 0, 2) = -13; ! shift(0, -1, 0, 0, 0) = -13
            shift(0, 0, 1, 2, 3) = 3; shift(1, 2, 0, 0, 3) = 3; shift(0, 3, 1, 5, 0) = 0
            """);
    }
}
