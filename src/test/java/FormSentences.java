/** Part 3 of the terms, and the promises 20 and 21: THE FORM. */
final class FormSentences {
    private FormSentences() {
    }

    static void tell(Sentences s) {
        termsOfTurns(s);
        termsOfPasses(s);
        termsOfForm(s);
        form(s);
        formRefused(s);
        akin(s);
    }

    private static void termsOfTurns(Sentences s) {
        s.holds("Terms 3", "THE FORM of a row of STEPS: first each PASS is told as if no WALKS had been ahead of it: at p "
            + "less WALKS ON, and WALKS BACK more (in the round)", """
            ring(5)
            figure "w1<" = 0; form(0, 0) = 0
            figure "w0<" = 1; form(1, 0) = 40             # below 0 comes the last
            figure "v4>" = 2; form(2, 0) = 1              # behind the last comes 0
            figure "v3>" = 3; form(3, 0) = 41
            figure "((w)3)20<" = 4; form(4, 0) = 40       # more than a round
            figure "((w)9)9w1<" = 5; form(5, 0) = 40
            figure "((v)9)9v4>" = 6; form(6, 0) = 11
            figure "1<w" = 7; form(7, 0) = 10             # a WALK behind it does not matter
            figure "vv0<w0<" = 8; form(8, *) = 20 10 -99
            new
            ring(3); figure "w0<" = 0; form(0, 0) = 20; ring(9); form(0, 0) = 80; ring(4); form(0, 0) = 30
            """);
        s.holds("Terms 3", "then WALKS are left out but for how many more were ON than BACK (TURNS).", """
            ring(4)
            figure "w" = 0; form(0, -2) = 1; form(0, -1) = 0
            figure "vv" = 1; form(1, -2) = -2; form(1, -1) = 0
            figure "w0<vvw2<" = 2; form(2, -2) = 0; form(2, -1) = 2
            figure "((w)9)9" = 3; form(3, -2) = 81        # not in the round
            figure "((v)9)9" = 4; form(4, -2) = -81
            figure "(w)4" = 5; form(5, -2) = 4
            figure "0<" = 6; form(6, -2) = 0
            """);
    }

    private static void termsOfPasses(Sentences s) {
        s.holds("Terms 3", "Of the PASSES: two that follow one another may change places if they are FAR: neither at one "
            + "p nor at p that are beside one another in the round", """
            ring(5)
            figure "2<0<" = 0; form(0, *) = 0 20 -99
            figure "3<0<" = 1; form(1, *) = 0 30 -99
            figure "1<0<" = 2; form(2, *) = 10 0 -99      # beside one another
            figure "4<0<" = 3; form(3, *) = 40 0 -99      # so are the last and 0
            figure "4<3<" = 4; form(4, *) = 40 30 -99
            figure "0>0>" = 5; form(5, *) = 1 1 -99
            ring(3); form(0, *) = 20 0 -99; form(2, *) = 10 0 -99     # of three, all are beside one another
            ring(4); form(0, *) = 0 20 -99; form(1, *) = 30 0 -99
            ring(6); form(1, *) = 0 30 -99; form(3, *) = 0 40 -99
            """);
        s.holds("Terms 3", "and two that follow one another, at one p, one LOW, one HIGH, may be left out.", """
            ring(5)
            figure "0<0>" = 0; form(0, -1) = 0
            figure "4>4<" = 1; form(1, -1) = 0
            figure "0<0<" = 2; form(2, *) = 0 0 -99; form(2, -1) = 2
            figure "0>0>" = 3; form(3, *) = 1 1 -99; form(3, -1) = 2
            figure "0<2<0>" = 4; form(4, *) = 20 -99; form(4, -1) = 1         # one that is FAR stands between
            figure "0<1<0>" = 5; form(5, *) = 0 10 1 -99; form(5, -1) = 3     # one that is not
            figure "0<4<0>" = 6; form(6, *) = 0 40 1 -99; form(6, -1) = 3
            figure "0<1>" = 7; form(7, -1) = 2            # at one p
            figure "0<w1>" = 8; form(8, -1) = 0; form(8, -2) = 1      # at one p when the WALK is left out
            figure "0<w0>" = 9; form(9, -1) = 2
            ring(3); form(4, *) = 0 20 1 -99; ring(4); form(4, *) = 20 -99
            """);
    }

    private static void termsOfForm(Sentences s) {
        s.holds("Terms 3", "THE FORM is the shortest that comes so", """
            ring(6)
            figure "0<1<1>0>" = 0; form(0, -1) = 0        # what is left out brings others together
            figure "0<2<1<1>2>0>" = 1; form(1, -1) = 0
            figure "0<2<0<2>0>0>" = 2; form(2, -1) = 0
            figure "1<0<3>0>1>3<" = 3; form(3, -1) = 0
            figure "0<0>0<" = 4; form(4, *) = 0 -99
            figure "0<0<0>0>0>" = 5; form(5, *) = 1 -99
            figure "3<0<4<0>1>1<" = 6; form(6, *) = 30 40 -99
            figure "(0<1>2<)9((0<1>2<)9)-" = 7; form(7, -1) = 0
            """);
        s.holds("Terms 3", "of several the one with the least first PASS at which they differ: by p, then LOW ahead of "
            + "HIGH.", """
            ring(7)
            figure "5<3<1<" = 0; form(0, *) = 10 30 50 -99
            figure "4>2>0>" = 1; form(1, *) = 1 21 41 -99
            figure "4<2<0<1<" = 2; form(2, *) = 0 20 10 40 -99        # 1 waits for 2
            figure "5<4<1<0<" = 3; form(3, *) = 10 0 50 40 -99
            figure "6<0<3<" = 4; form(4, *) = 30 60 0 -99
            figure "2>0<2>0<" = 5; form(5, *) = 0 0 21 21 -99
            """);
        s.holds("Terms 3", "FREE: THE FORM has no PASSES.", """
            ring(3); form(-1, -1) = 0; form(-1, 0) = -99
            figure "wv" = 0; form(0, -1) = 0; form(0, 0) = -99
            figure "0<0>" = 1; form(1, -1) = 0; form(1, 0) = -99; figure "0<" = 2; form(2, -1) = 1
            ring(9); form(0, -1) = 0; form(1, -1) = 0; figure "8>8<" = 3; form(3, -1) = 0
            """);
        s.holds("Terms 3", "Two rows are AKIN: like FORMS, and like TURNS.", """
            ring(5)
            figure "0<w" = 0; figure "w1<" = 1; akin(0, 1) = 1
            figure "0<" = 2; akin(0, 2) = 0               # like FORMS, unlike TURNS
            figure "0>w" = 3; akin(0, 3) = 0; figure "1<w" = 4; akin(0, 4) = 0        # like TURNS, unlike FORMS
            figure "0<0<w" = 5; akin(0, 5) = 0; akin(5, 0) = 0        # one is how the other begins
            figure "(w)5" = 6; akin(6, -1) = 0            # a whole round is no like TURN
            figure "2<0<w" = 7; figure "0<w3<" = 8; akin(7, 8) = 1
            figure "v" = 9; akin(9, -1) = 0
            new                                           # a longer FORM that was looked at does not matter
            ring(3); figure "(((0<1<2<)5)5)4" = 0; figure "0<" = 1; figure "0<1<1>" = 2; form(0, 299) = 20
            akin(1, 2) = 1; akin(0, 0) = 1; figure "A" = 3; akin(0, 3) = 1; figure "(((0<1<2<)5)5)3" = 4; akin(0, 4) = 0
            akin(2, 0) = 0; akin(2, 1) = 1
            """);
    }

    private static void form(Sentences s) {
        s.holds("Promise 20: form", "THE FORM of a FIGURE (-1: of THE DANCE) in THE RING", """
            dance of 4 with 500; figure "1<" = 0; form(-1, -1) = 0; form(0, -1) = 1; form(0, 0) = 10
            pass(3, 0); walk(0); pass(0, 0); walk(0)
            form(-1, *) = 30 30 -99; form(-1, -2) = 2; form(0, -1) = 1
            end(); form(-1, *) = 30 30 -99; begin(); form(-1, -1) = 0; form(-1, -2) = 0
            new
            ring(9); figure "8<w0<" = 0; form(0, *) = 80 80 -99
            """);
        s.holds("Promise 20: form", "what -2 TURNS (below 0: more BACK), -1 how many PASSES, i: the i-th, 10 p and 0 or "
            + "1.", """
            ring(9); figure "vv0<8>w" = 0
            form(0, -2) = -1; form(0, -1) = 2; form(0, *) = 20 11 -99
            figure "0<8>" = 1; form(1, -2) = 0; form(1, *) = 0 81 -99
            new                                           # 300 PASSES
            ring(3); figure "(((0<1>2<)5)5)4" = 0; form(0, -1) = 300; form(0, 299) = 20; form(0, 298) = 11
            form(0, 300) = -99
            """);
    }

    private static void formRefused(Sentences s) {
        s.holds("Promise 20: form", "-99: no such FIGURE, what", """
            ! form(0, -1) = -99; ! form(-2, -1) = -99; ! form(-1, -3) = -99   # named ahead of -98
            ring(4); figure "0<w" = 0; figure "9<" = 1
            ! form(2, -1) = -99; ! form(-2, -1) = -99; ! form(MIN, -1) = -99; ! form(MAX, -1) = -99
            ! form(0, -3) = -99; ! form(0, 1) = -99; ! form(0, MIN) = -99; ! form(0, MAX) = -99; form(0, 0) = 0
            ! form(1, -3) = -99                           # named ahead of -97
            ! form(-1, 0) = -99; ! form(-1, -3) = -99; form(-1, -2) = 0
            """);
        s.holds("Promise 20: form", "-98: there is no RING", """
            ! form(-1, -1) = -98; ! form(-1, -2) = -98; ! form(-1, 0) = -98
            figure "0<w" = 0; ! form(0, -1) = -98; ! form(0, -2) = -98; ! form(0, 0) = -98
            figure "9<" = 1; ! form(1, -1) = -98          # named ahead of -97
            ring(3); form(0, -1) = 1
            """);
        s.holds("Promise 20: form", "-97: a PASS of the FIGURE is at no PLACE of it.", """
            ring(5); figure "4<" = 0; form(0, -1) = 1
            figure "5<" = 1; ! form(1, -1) = -97; ! form(1, -2) = -97; ! form(1, 0) = -97
            figure "w5<" = 2; ! form(2, -1) = -97         # 5 itself, not what it is told as
            figure "0<0>9<9>" = 3; ! form(3, -1) = -97    # though all are left out
            ring(6); form(1, 0) = 50; form(2, 0) = 40; form(3, -1) = -97; ring(4); form(0, -1) = -97
            ring(9); form(3, -1) = -97
            """);
    }

    private static void akin(Sentences s) {
        s.holds("Promise 21: akin", "Whether two FIGURES (-1: THE DANCE) are AKIN.", """
            dance of 5 with 500; figure "2<0<w" = 0; figure "0<w3<" = 1; figure "0<2<v" = 2
            akin(0, 1) = 1; akin(1, 0) = 1; akin(0, 0) = 1; akin(0, 2) = 0; akin(2, 1) = 0
            akin(-1, -1) = 1; akin(-1, 0) = 0; dance(1) = 3; akin(-1, 0) = 1; akin(0, -1) = 1; akin(-1, 2) = 0
            end(); akin(-1, 1) = 1
            """);
        s.holds("Promise 21: akin", "NONE: figures", """
            ! akin(0, -1) = -1; ! akin(-1, 0) = -1; ! akin(-2, -1) = -1       # named ahead of STATE
            ring(4); figure "9<" = 0; ! akin(0, 1) = -1; ! akin(1, 0) = -1
            ! akin(-2, -1) = -1; ! akin(-1, -2) = -1; ! akin(MIN, -1) = -1; ! akin(-1, MAX) = -1; akin(-1, -1) = 1
            """);
        s.holds("Promise 21: akin", "STATE: there is no RING, or a PASS at no PLACE of it.", """
            ! akin(-1, -1) = -3; figure "3<" = 0; figure "0<" = 1; ! akin(1, 1) = -3
            ring(3); ! akin(0, 1) = -3; ! akin(1, 0) = -3; ! akin(0, 0) = -3; akin(1, 1) = 1
            ring(4); akin(0, 1) = 0; akin(0, 0) = 1
            """);
    }
}
