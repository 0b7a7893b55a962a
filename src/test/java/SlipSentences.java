/** Part 5 of the terms, and the promises 26 and 27: SLIPS. */
final class SlipSentences {
    private SlipSentences() {
    }

    static void tell(Sentences s) {
        termsOfSlips(s);
        termsOfRoom(s);
        termsOfCloth(s);
        right(s);
        slips(s);
    }

    private static void termsOfSlips(Sentences s) {
        s.holds("Terms 5", "SLIPS: of a FIGURE that should have been danced from the beginning of THE DANCE (by these "
            + "RIBBONS and LENGTHS)", """
            dance of 3 with 13; figure "0<w" = 0; dance(0) = 2
            at(*, 2) = 3 1 2; right(0) = 1                # from now on it could not be danced
            dance(0) = 0; end(); begin(); right(0) = 0; slips(0, -1) = 0      # nor from this beginning: none lays no ROW
            new
            dance of 3 with 13; figure "0<w" = 0; walk(0); slips(0, *) = 0 -1 # it was left out
            end(); begin(); slips(0, *) = 10 -1; right(0) = 0
            new                                           # what was danced ahead of it is not its own
            dance of 3 with 500; figure "w" = 0; walk(0); right(0) = 1; dance(0); right(0) = 0; slips(0, *) = 2 -1
            new                                           # RIBBONS as they are called in this DANCE
            dance of 3 with 500; figure "0<w" = 0; walk(0); pass(0, 1); end(); begin(); dance(0); right(0) = 1
            """);
        s.holds("Terms 5", "one STEP k of it (from 0 on) that 0 was left out, 1 was done by its UNDOING, 2 was done twice, "
            + "all others as told", """
            dance of 4 with 500; figure "0<1<w" = 0
            pass(1, 0); walk(0); slips(0, *) = 0 -1; end(); begin()
            pass(0, 1); pass(1, 0); walk(0); slips(0, *) = 1 -1; end(); begin()
            pass(0, 0); pass(0, 0); pass(1, 0); walk(0); slips(0, *) = 2 -1; end(); begin()
            pass(0, 0); walk(0); slips(0, *) = 10 -1; end(); begin()
            pass(0, 0); pass(1, 1); walk(0); slips(0, *) = 11 -1; end(); begin()
            pass(0, 0); pass(1, 0); pass(1, 0); walk(0); slips(0, *) = 12 -1; end(); begin()
            pass(0, 0); pass(1, 0); slips(0, *) = 20 -1; walk(1); slips(0, *) = 21 -1; end(); begin()
            pass(0, 0); pass(1, 0); walk(0); slips(0, *) = -1; walk(0); slips(0, *) = 22 -1; end(); begin()
            pass(1, 1); walk(0); slips(0, *) = -1         # two slips are none
            new                                           # of HIGH and BACK, too
            dance of 4 with 500; figure "0>1>v" = 0
            pass(0, 0); pass(1, 1); walk(1); slips(0, *) = 1 -1; end(); begin()
            pass(0, 1); pass(1, 0); walk(1); slips(0, *) = 11 -1; end(); begin()
            pass(0, 1); pass(1, 1); walk(0); slips(0, *) = 21 -1; end(); begin()
            dance(0) = 3; slips(0, *) = -1                # as told
            """);
    }

    private static void termsOfRoom(Sentences s) {
        s.holds("Terms 5", "if each could be done (also by room for STEPS and ROWS)", """
            ring of 3 with 14; ribbon(1, 1, 13); begin(); figure "0<w" = 0
            pass(0, 1); pass(0, 0); walk(0) = 3; slips(0, *) = 2 -1   # the same CLOTH as by 0<0<w
            new                                           # but of RIBBON 1 that would have taken 13
            ring of 3 with 14; ribbon(1, 1, 12); begin(); figure "0<w" = 0
            pass(0, 1); pass(0, 0); walk(0) = 3; slips(0, -1) = 0
            new                                           # at no PLACE: it could be left out alone
            dance of 3 with 500; figure "0<3<w" = 0; pass(0, 0); walk(0); slips(0, *) = 10 -1; right(0) = 0
            figure "3<0<w3<" = 1; slips(1, -1) = 0
            new                                           # 300 STEPS: done twice, one would be the 301st
            dance of 3 with 99999; figure "(((0<0>)5)5)6" = 0; told(0, -1) = 300; right(0) = 1
            slips(0, -1) = 600; slips(0, 0) = 0; slips(0, 1) = 1; slips(0, 2) = 10; slips(0, 599) = 2991
            slips(0, 600) = -1
            new
            dance of 3 with 99999; figure "(((0<0>)7)7)30<0>0<0>0<" = 0; told(0, -1) = 299
            slips(0, -1) = 897; slips(0, 2) = 2; slips(0, 896) = 2982; slips(0, 897) = -1
            new                                           # 100 ROWS: done twice, one would be the 101st
            dance of 3 with 99999; figure "((w)9)9((w)9)2w" = 0; dance(0) = 100; right(0) = 1; slips(0, -1) = 0
            figure "((w)9)9((w)9)2" = 1; slips(1, -1) = 99; slips(1, 98) = 982; right(1) = 0
            figure "Aw" = 2; right(2) = 0; slips(2, -1) = 101; slips(2, 0) = 0; slips(2, 100) = 1000
            """);
    }

    private static void termsOfCloth(Sentences s) {
        s.holds("Terms 5", "and the CLOTH that comes so has as many ROWS as THE CLOTH, with the same RIBBONS and MARKS.", """
            dance of 3 with 500; figure "www" = 0; figure "w" = 1; figure "0<w" = 2; figure "w0<" = 3
            right(1) = 0; walk(0); right(1) = 1; right(0) = 0; slips(0, -1) = 0
            walk(0); right(1) = 0; slips(1, *) = 2 -1; slips(0, *) = 0 10 20 -1       # one ROW more, or fewer
            end(); begin(); pass(0, 1); walk(0); right(2) = 0; slips(2, *) = 1 -1     # other MARKS alone
            end(); begin(); pass(0, 0); pass(0, 0); walk(0); right(2) = 0; slips(2, *) = 2 -1 # other RIBBONS alone
            end(); begin(); walk(0); right(3) = 1; slips(3, *) = 10 11 12 -1  # behind the last ROW all is alike
            pass(2, 1); pass(1, 0); right(3) = 1; slips(3, *) = 10 11 12 -1
            new                                           # RIBBONS, not COLOURS
            ring of 3 with 500; ribbon(1, 0, 500); ribbon(2, 0, 500); begin(); figure "w" = 0
            walk(1); right(0) = 0; slips(0, *) = 1 -1
            new                                           # unlike at the last PLACE of the last ROW alone
            dance of 4 with 500; figure "ww" = 0; walk(0); pass(3, 0); pass(3, 1); walk(0); right(0) = 0
            """);
        s.holds("Terms 5", "EXPLAINED: how many such there are, by k, then 0, 1, 2", """
            dance of 3 with 500; figure "w0<1<" = 0; slips(0, -1) = 1; slips(0, *) = 0 -1
            walk(0); slips(0, -1) = 6; slips(0, *) = 10 11 12 20 21 22 -1
            walk(0); slips(0, -1) = 1; slips(0, *) = 2 -1; walk(0); slips(0, -1) = 0; slips(0, *) = -1
            new
            dance of 3 with 500; figure "0<0<w" = 0; pass(0, 0); walk(0); slips(0, *) = 0 2 10 12 -1
            """);
        s.holds("Terms 5", "RIGHT: without any slip.", """
            dance of 3 with 500; figure "0<w" = 0; figure "1<" = 1; right(0) = 0; right(1) = 1
            dance(0); right(0) = 1; right(1) = 0; pass(0, 0); right(0) = 1; walk(0); right(0) = 0
            """);
    }

    private static void right(Sentences s) {
        s.holds("Promise 26: right", "Whether THE CLOTH is RIGHT for a FIGURE.", """
            dance of 4 with 500; figure "0<2>w1<v" = 0; figure "2>0<w1<v" = 1; figure "0<2>w1>v" = 2
            right(0) = 0; dance(0) = 5; right(0) = 1; right(1) = 1; right(2) = 0
            new                                           # one that could not be danced is not
            dance of 3 with 500; figure "4<" = 0; right(0) = 0; figure "2<" = 1; right(1) = 1
            new
            dance of 3 with 10; figure "ww" = 0; walk(0); right(0) = 0
            """);
        s.holds("Promise 26: right", "NONE", """
            ! right(0) = -1                               # named ahead of STATE
            dance of 3 with 500; ! right(0) = -1; ! right(-1) = -1; figure "w" = 0; ! right(1) = -1; ! right(MIN) = -1
            ! right(MAX) = -1; right(0) = 0
            """);
        s.holds("Promise 26: right", "STATE: there is no DANCE.", """
            figure "w" = 0; ! right(0) = -3; ring of 3 with 500; ! right(0) = -3; begin(); walk(0); right(0) = 1
            end(); ! right(0) = -3
            """);
    }

    private static void slips(Sentences s) {
        s.holds("Promise 27: slips", "EXPLAINED (i -1), the i-th: 10 k and 0, 1, 2.", """
            dance of 3 with 500; figure "w0<" = 0; walk(0); slips(0, -1) = 3; slips(0, *) = 10 11 12 -1
            walk(0); slips(0, -1) = 1; slips(0, *) = 2 -1
            new                                           # looking for slips changes nothing
            dance of 3 with 500; figure "0<w1>" = 0; pass(0, 0); ! slips(0, -1) = 1; ! slips(0, 0) = 10; ! right(0) = 0
            """);
        s.holds("Promise 27: slips", "NONE: figure, i", """
            ! slips(0, -1) = -1                           # named ahead of STATE
            dance of 3 with 500; ! slips(0, -1) = -1; ! slips(-1, -1) = -1; figure "w" = 0; ! slips(1, -1) = -1
            ! slips(MIN, -1) = -1; ! slips(MAX, -1) = -1
            ! slips(0, -2) = -1; ! slips(0, 1) = -1; ! slips(0, MIN) = -1; ! slips(0, MAX) = -1; slips(0, 0) = 0
            walk(0); ! slips(0, 0) = -1; end(); ! slips(0, -2) = -1; ! slips(1, 0) = -1
            """);
        s.holds("Promise 27: slips", "STATE: there is no DANCE.", """
            figure "w" = 0; ! slips(0, -1) = -3; ring of 3 with 500; ! slips(0, -1) = -3; begin(); slips(0, -1) = 1
            walk(0); end(); ! slips(0, -1) = -3
            """);
    }
}
