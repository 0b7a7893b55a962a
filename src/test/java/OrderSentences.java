/** Part 6 of the terms, and the promises 28 to 30: FEWEST, SET, SPENT. */
final class OrderSentences {
    private OrderSentences() {
    }

    static void tell(Sentences s) {
        termsOfFewest(s);
        termsOfSet(s);
        fewest(s);
        fewestRefused(s);
        set(s);
        spent(s);
    }

    private static void termsOfFewest(Sentences s) {
        s.holds("Terms 6", "FEWEST: the least number of PASSES by which the RIBBONS come to a told order (for each PLACE "
            + "which RIBBON), from how they are", """
            ring(4)
            order 0 tells 0 1 2 3; fewest(0, -1) = 0; fewest(0, 0) = -1
            order 0 tells 1 0 2 3; fewest(0, -1) = 1; fewest(0, *) = 0 -1
            order 0 tells 3 1 2 0; fewest(0, -1) = 1; fewest(0, *) = 3 -1     # across the last and 0
            order 0 tells 1 2 0 3; fewest(0, -1) = 2; fewest(0, *) = 0 1 -1   # by PLACE, not by RIBBON
            order 0 tells 2 0 1 3; fewest(0, -1) = 2; fewest(0, *) = 1 0 -1
            order 0 tells 1 2 3 0; fewest(0, -1) = 3; fewest(0, *) = 0 1 2 -1
            order 0 tells 3 2 1 0; fewest(0, -1) = 2; fewest(0, *) = 1 3 -1
            new
            ring(7); order 0 tells 6 5 4 3 2 1 0; fewest(0, -1) = 9
            new                                           # from how they are, in a DANCE
            dance of 4 with 500; pass(0, 0); order 0 tells 1 0 2 3; fewest(0, -1) = 0
            order 1 tells 0 1 2 3; fewest(1, *) = 0 -1; walk(0); at(*, 3) = 3 1 0 2
            fewest(0, -1) = 3; fewest(0, *) = 0 1 2 -1
            end(); fewest(1, -1) = 0; fewest(0, -1) = 1   # and by their PLACES behind it
            """);
        s.holds("Terms 6", "of several such rows of PLACES p the first (by the lesser p, one by one).", """
            ring(4); order 0 tells 1 0 3 2; fewest(0, *) = 0 2 -1
            ring(5); order 0 tells 3 1 2 0 4; fewest(0, -1) = 3; fewest(0, *) = 3 4 3 -1
            ring(3); order 0 tells 2 1 0; fewest(0, *) = 2 -1; order 0 tells 1 2 0; fewest(0, *) = 0 1 -1
            order 0 tells 2 0 1; fewest(0, *) = 0 2 -1
            """);
        s.holds("Terms 6", "n up to 7.", """
            ring(7); order 0 tells 1 0 2 3 4 5 6; fewest(0, *) = 0 -1; order 1 tells 6 1 2 3 4 5 0; fewest(1, *) = 6 -1
            ring(8); order 0 tells 1 0 2 3 4 5 6 7; ! fewest(0, -1) = -3; ring(9); ! fewest(0, -1) = -3
            """);
    }

    private static void termsOfSet(Sentences s) {
        s.holds("Terms 6", "SET: a set of PEOPLE (bits; as many as PLACES, no PIPERS, n up to 7) put in a round so that the "
            + "sum, over neighbours, of how far their REACHES are apart is least", """
            ring(4); person(0, 1, 1); person(1, 10, 1); person(2, 2, 1); person(3, 11, 1); person(4, 5, 1)
            person(0, 20, 1)
            set(15, -1) = 20; set(15, *) = 0 1 3 2 -1     # the last and the first are neighbours, too
            set(46, -1) = 36; set(46, *) = 1 2 3 5 -1     # bits 1, 2, 3, 5
            ! set(7, -1) = -2; ! set(47, -1) = -2; ! set(23, -1) = -2
            ring(3); set(7, -1) = 18; set(7, *) = 0 1 2 -1
            new
            ring of 7 with 0; set(127, -1) = 12; set(127, *) = 0 1 2 3 4 5 6 -1
            new
            ring of 8 with 0; ! set(255, -1) = -3
            """);
        s.holds("Terms 6", "of several the first row (by PLACES from 0 on, the lesser number).", """
            ring(5); 15 * person(0, 7, 1); set(31, -1) = 0; set(31, *) = 0 1 2 3 4 -1
            set(21640, *) = 3 7 10 12 14 -1; set(21640, -1) = 0
            new
            ring(4); person(0, 9, 1); person(0, 1, 1); person(0, 9, 1); person(0, 1, 1)
            set(15, -1) = 16; set(15, *) = 0 1 3 2 -1
            """);
        s.holds("Terms 6", "SPENT by the set in a FIGURE: the sum, over STEPS, of: of a PASS PACES of both, of a WALK the "
            + "greatest PACE", """
            ring of 3 with 0; person(0, 5, 9)             # PACES 1 2 3, and 9
            figure "0<" = 0; figure "1>" = 1; figure "2<" = 2; figure "w" = 3; figure "v" = 4; figure "wwvv0<" = 5
            spent(7, 0) = 3; spent(7, 1) = 5; spent(7, 2) = 4; spent(7, 3) = 3; spent(7, 4) = 3; spent(7, 5) = 15
            spent(11, 3) = 9; spent(14, 0) = 5            # of the set alone
            new                                           # the first has the greatest PACE, then one between
            ring(3); person(0, 1, 9); person(0, 2, 1); person(0, 3, 2); person(0, 4, 1); figure "w" = 0; figure "v" = 1
            spent(7, 0) = 9; spent(7, 1) = 9; spent(14, 0) = 2; spent(14, 1) = 2; spent(11, 0) = 9; spent(14, 0) = 2
            """);
        s.holds("Terms 6", "(as they would stand so, each moving as told).", """
            ring of 3 with 0                              # PACES 1 2 3
            figure "0<1<" = 0; spent(7, 0) = 7; figure "w0<" = 1; spent(7, 1) = 7; figure "v0<" = 2; spent(7, 2) = 8
            figure "2>0<" = 3; spent(7, 3) = 9; figure "ww0<" = 4; spent(7, 4) = 11
            new                                           # as set() puts them: 0 1 3 2
            ring(4); person(0, 1, 1); person(0, 10, 2); person(0, 2, 3); person(0, 11, 5)
            figure "1<" = 0; spent(15, 0) = 7; figure "3<" = 1; spent(15, 1) = 4; figure "1<2<" = 2; spent(15, 2) = 12
            new                                           # seven, PACES 1 .. 7
            ring of 7 with 0; figure "w0<" = 0; spent(127, 0) = 15; figure "v0<" = 1; spent(127, 1) = 12
            figure "v5<6<" = 2; spent(127, 2) = 24; figure "w6<0<" = 3; spent(127, 3) = 27
            """);
    }

    private static void fewest(Sentences s) {
        s.holds("Promise 28: fewest", "FEWEST to the order of RIBBONS that the first n items of a TAPE of bytes tell: "
            + "what -1 how many, i: the i-th p.", """
            ring(3); order 5 tells 1 2 0 1 1 77; fewest(5, -1) = 2; fewest(5, *) = 0 1 -1
            order 0 tells 0 1 2; fewest(0, -1) = 0
            new
            dance of 3 with 50; order 0 tells 0 1 2; pass(1, 0); ! fewest(0, -1) = 1; ! fewest(0, 0) = 1
            """);
    }

    private static void fewestRefused(Sentences s) {
        s.holds("Promise 28: fewest", "NONE: tape, what below -1", """
            ! fewest(-1, -1) = -1; ! fewest(6, -1) = -1; ! fewest(0, -2) = -1 # named ahead of STATE
            ring(3); ! fewest(-1, -1) = -1; ! fewest(6, -1) = -1; ! fewest(MIN, -1) = -1; ! fewest(MAX, -1) = -1
            ! fewest(0, -2) = -1; ! fewest(0, MIN) = -1   # named ahead of NOTHING
            order 0 tells 0 1 2; ! fewest(0, -2) = -1; fewest(0, -1) = 0
            order 5 tells 0 1 2; fewest(5, -1) = 0
            """);
        s.holds("Promise 28: fewest", "STATE: there is no RING, or n is above 7", """
            order 0 tells 0 1 2 3 4 5 6 7 8; ! fewest(0, -1) = -3; ! fewest(0, 0) = -3
            ! fewest(1, -1) = -3                          # named ahead of NOTHING
            ring(8); ! fewest(0, -1) = -3; ! fewest(1, -1) = -3; ring(9); ! fewest(0, -1) = -3; ring(7); fewest(0, -1) = 0
            """);
        s.holds("Promise 28: fewest", "NOTHING", """
            ring(3); ! fewest(0, -1) = -11; ! fewest(5, 0) = -11; order 0 tells 0 1 2; fewest(0, -1) = 0
            tape(0, -1, 0); ! fewest(0, -1) = -11; ! fewest(0, 0) = -11
            """);
        s.holds("Promise 28: fewest", "CAST", """
            ring(3); tape(0, 1, 60); tape(1, 2, 60); tape(2, 3, 60); tape(3, 4, 60)
            ! fewest(0, -1) = -12; ! fewest(1, -1) = -12; ! fewest(2, -1) = -12; ! fewest(3, -1) = -12
            tape(0, 1, 2); ! fewest(0, -1) = -12          # named ahead of PLACE
            item(1, 1, 1); item(1, 2, 2); ! fewest(1, -1) = -12
            """);
        s.holds("Promise 28: fewest", "PLACE: it has fewer", """
            ring(4); order 0 tells 0 1 2; ! fewest(0, -1) = -13; ! fewest(0, 0) = -13; tape(1, 0, 0); ! fewest(1, -1) = -13
            order 0 tells 0 0 0; ! fewest(0, -1) = -13    # named ahead of BAD
            order 0 tells 0 1 2 3; fewest(0, -1) = 0
            """);
        s.holds("Promise 28: fewest", "BAD: not each RIBBON once", """
            ring(3); order 0 tells 0 1 1; ! fewest(0, -1) = -2; order 0 tells 0 1 3; ! fewest(0, -1) = -2
            order 0 tells 0 0 1; ! fewest(0, -1) = -2; order 0 tells 1 1 0; ! fewest(0, -1) = -2
            order 0 tells 2 1 2; ! fewest(0, -1) = -2; order 0 tells 2 2 2; ! fewest(0, -1) = -2
            order 0 tells 0 1 -1; ! fewest(0, -1) = -2; order 0 tells 127 1 2; ! fewest(0, -1) = -2
            order 0 tells -128 1 2; ! fewest(0, -1) = -2; tape(0, 0, 3); ! fewest(0, -1) = -2
            ! fewest(0, 7) = -2                           # named ahead of the last NONE
            order 0 tells 0 1 3 2; ! fewest(0, -1) = -2; order 0 tells 0 1 258; fewest(0, -1) = 0     # 2, as a byte
            """);
        s.holds("Promise 28: fewest", "NONE: no such i.", """
            ring(4); order 0 tells 1 2 0 3; fewest(0, -1) = 2; fewest(0, 1) = 1; ! fewest(0, 2) = -1; ! fewest(0, MAX) = -1
            order 0 tells 0 1 2 3; ! fewest(0, 0) = -1
            """);
    }

    private static void set(Sentences s) {
        s.holds("Promise 29: set", "SET: what -1 the sum, i: who stands at PLACE i.", """
            ring(3); person(0, 20, 1); person(1, 1, 1); person(2, 5, 1); person(3, 7, 1)
            set(7, -1) = 38; set(7, *) = 0 1 2 -1; set(14, -1) = 12; set(14, *) = 1 2 3 -1
            new                                           # nobody comes to stand by it
            dance of 4 with 50; ! set(15, -1) = 6; ! set(15, 3) = 3
            """);
        s.holds("Promise 29: set", "STATE: there is no RING, or n is above 7", """
            8 * person(0, 5, 5); ! set(7, -1) = -3; ! set(0, -1) = -3; ! set(7, -2) = -3
            ring(8); ! set(255, -1) = -3; ! set(0, 0) = -3        # named ahead of BAD
            ring(9); ! set(255, -1) = -3; ring(7); set(127, -1) = 0
            """);
        s.holds("Promise 29: set", "BAD: bits of none, a PIPER, not so many", """
            ring(3); person(0, 5, 5); person(0, 5, 5); ! set(7, -1) = -2; ! set(3, -1) = -2
            person(4, 5, 5); ! set(7, -1) = -2; person(0, 5, 5); set(11, -1) = 0
            ! set(3, -1) = -2; ! set(0, -1) = -2; ! set(15, -1) = -2; person(0, 5, 5); ! set(27, -1) = -2
            ! set(27, 9) = -2                             # named ahead of NONE
            ! set(35, -1) = -2; ! set(-1, -1) = -2; ! set(MIN, -1) = -2; ! set(MAX, -1) = -2; ! set(-2147483645, -1) = -2
            new                                           # the last of 15, and one behind it
            ring(3); 15 * person(0, 5, 5); set(28672, -1) = 0; set(28672, 2) = 14; ! set(57344, -1) = -2
            """);
        s.holds("Promise 29: set", "NONE: what.", """
            ring of 3 with 0; ! set(7, 3) = -1; ! set(7, -2) = -1; ! set(7, MIN) = -1; ! set(7, MAX) = -1; set(7, 2) = 2
            """);
    }

    private static void spent(Sentences s) {
        s.holds("Promise 30: spent", "SPENT in a FIGURE.", """
            ring of 4 with 0; figure "0<w3>v" = 0; spent(15, 0) = 18; figure "(((w)5)5)4((w)5)4" = 1; spent(15, 1) = 480
            new
            dance of 4 with 50; figure "0<w" = 0; ! spent(15, 0) = 7
            """);
        s.holds("Promise 30: spent", "NONE: figure", """
            ! spent(7, 0) = -1                            # named ahead of STATE
            ring of 3 with 0; ! spent(7, 0) = -1; figure "0<" = 0; ! spent(7, 1) = -1; ! spent(7, -1) = -1
            ! spent(7, MIN) = -1; ! spent(7, MAX) = -1; ! spent(99, 1) = -1   # and of BAD
            """);
        s.holds("Promise 30: spent", "STATE, BAD as set()", """
            figure "0<" = 0; 8 * person(0, 5, 5); person(4, 5, 5); ! spent(7, 0) = -3
            ring(8); ! spent(255, 0) = -3; ! spent(0, 0) = -3; ring(9); ! spent(255, 0) = -3; ring(7); spent(127, 0) = 10
            ! spent(63, 0) = -2; ! spent(255, 0) = -2; ! spent(319, 0) = -2; ! spent(575, 0) = -2; ! spent(-1, 0) = -2
            ! spent(0, 0) = -2; ! spent(MIN, 0) = -2
            """);
        s.holds("Promise 30: spent", "STATE: a PASS at no PLACE, too.", """
            ring of 3 with 0; figure "0<3<" = 0; figure "2<" = 1; figure "w9>" = 2
            ! spent(7, 0) = -3; ! spent(7, 2) = -3; spent(7, 1) = 4; ! spent(3, 0) = -2   # BAD is named ahead of it
            person(0, 5, 9); ring(4); spent(15, 0) = 14; ! spent(15, 2) = -3
            """);
    }
}
