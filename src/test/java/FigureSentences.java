/** Part 4 of the terms, and the promises 22 to 25: THE TEXT, FIGURES. */
final class FigureSentences {
    private FigureSentences() {
    }

    static void tell(Sentences s) {
        termsOfText(s);
        termsOfItems(s);
        termsOfGroups(s);
        termsOfFault(s);
        termsOfDancing(s);
        feed(s);
        figure(s);
        told(s);
        dance(s);
    }

    private static void termsOfText(Sentences s) {
        s.holds("Terms 4", "FIGURES 0 .. 9, as they come", """
            figure "w" = 0; figure "v" = 1; figure "x" = -10; figure "w" = 2; count(3) = 3
            figure "w" = 3; figure "w" = 4; figure "w" = 5; figure "w" = 6; figure "w" = 7; figure "w" = 8
            figure "0<" = 9; told(9, 0) = 0; count(3) = 10
            feed "w"; ! figure() = -4; told(10, -1) = -1
            """);
        s.holds("Terms 4", "read from THE TEXT (bytes, 80 at most)", """
            19 * feed(0x77777777, 4); feed(0x777777, 3) = 79; feed(119, 1) = 80; ! feed(119, 1) = -4; count(4) = 80
            figure() = 0; told(0, -1) = 80; told(0, 79) = 100; count(4) = 0
            """);
        s.holds("Terms 4", "ITEMS one behind the other, one at least", """
            !text figure() = -10
            figure "w" = 0; told(0, *) = 100 -1
            figure "0<w1>(v)2A" = 1; told(1, *) = 0 100 11 101 101 100 -1
            !text figure "w " = -11                       # nothing stands between them
            """);
    }

    private static void termsOfItems(Sentences s) {
        s.holds("Terms 4", "p< (a PASS at p, LOW; p a figure), p> (HIGH)", """
            figure "0<9<0>9>5<" = 0; told(0, *) = 0 90 1 91 50 -1
            !text figure "<" = -10; !text figure ">" = -10; !text figure "0w" = -11; !text figure "0=" = -11
            !text figure "10<" = -11                      # one figure alone
            !text figure "/<" = -10; !text figure ":<" = -10          # the signs beside the figures
            feed(0x303b, 2); !text figure() = -11          # and beside < and >: ;
            !text figure "0?" = -11
            """);
        s.holds("Terms 4", "w (a WALK ON), v (BACK)", """
            figure "wvw" = 0; told(0, *) = 100 101 100 -1
            !text figure "W" = -10; !text figure "V" = -10; !text figure "u" = -10; !text figure "x" = -10
            """);
        s.holds("Terms 4", "A to J (the FIGURE 0 to 9, one ahead of this one)", """
            !text figure "A" = -10                        # this one itself is none
            figure "0<w" = 0; figure "1>A" = 1; told(1, *) = 11 0 100 -1
            figure "BA" = 2; told(2, *) = 11 0 100 0 100 -1
            !text figure "D" = -10; !text figure "J" = -10; !text figure "K" = -10; !text figure "@" = -10
            !text figure "a" = -10
            figure "w" = 3; figure "w" = 4; figure "w" = 5; figure "w" = 6; figure "w" = 7; figure "7>" = 8
            !text figure "J" = -10; figure "IC" = 9; told(9, *) = 71 11 0 100 0 100 -1
            """);
        s.holds("Terms 4", "(ITEMS)k (k 2 .. 9: so often)", """
            figure "(0<w)2" = 0; told(0, *) = 0 100 0 100 -1
            figure "(w)9" = 1; told(1, -1) = 9; told(1, 8) = 100
            figure "1<(0<(w)2)2v" = 2; told(2, *) = 10 0 100 100 0 100 100 101 -1
            !text figure "(w)1" = -13; !text figure "(w)0" = -13; !text figure "(w):" = -13
            figure "(A)3" = 3; told(3, -1) = 12
            """);
        s.holds("Terms 4", "(ITEMS)- (their UNDOING: the STEPS' UNDOINGS from the last to the first).", """
            figure "(0<1>wv)-" = 0; told(0, *) = 100 101 10 1 -1
            figure "((0<)2w)-" = 1; told(1, *) = 101 1 1 -1
            figure "((0<w)-)-" = 2; told(2, *) = 0 100 -1
            figure "v(A)-v" = 3; told(3, *) = 101 0 11 100 101 101 -1
            figure "(0<)-(1>2>)-" = 4; told(4, *) = 1 20 10 -1
            figure "((0<w)-2>)2" = 5; told(5, *) = 101 1 21 101 1 21 -1
            figure "(0<(1<w)-)2" = 6; told(6, *) = 0 101 11 0 101 11 -1       # of what is inside it alone
            figure "w(v(0<(1<)-)-)-" = 7; told(7, *) = 100 0 11 100 -1
            """);
    }

    private static void termsOfGroups(Sentences s) {
        s.holds("Terms 4", "A ( within 4 others is none", """
            figure "((((w)2)2)2)2" = 0; told(0, -1) = 16
            !text figure "(((((w)2)2)2)2)2" = -14
            !text figure "((((w(w)2)2)2)2)2" = -15
            figure "(((w)2(w)2(w)2)2(w(w)2)2)2" = 1; told(1, -1) = 36         # one beside another is not within it
            figure "((((w)-(w)-)-)-)-((((w)-)-)-)-" = 2; told(2, -1) = 3
            !text figure "((((w)2)2)2)2(((((" = -27
            """);
        s.holds("Terms 4", "in a ( there is one ITEM at least.", """
            !text figure "()2" = -11; !text figure "()-" = -11; !text figure "(()2)2" = -12
            !text figure "w()2" = -12; !text figure "(w()2)2" = -13; figure "((w)2)2" = 0
            """);
    }

    private static void termsOfFault(Sentences s) {
        s.holds("Terms 4", "The FAULT: the place of the first byte with which none goes on so", """
            !text figure "x" = -10; !text figure "wx" = -11; !text figure "0<x" = -12; !text figure "(w)x" = -13
            !text figure "(w)2x" = -14; !text figure ")" = -10; !text figure "w)2" = -11; !text figure "(w)2)2" = -14
            !text figure "w-" = -11; !text figure "(w)--" = -14; !text figure "(-" = -11; !text figure "(w)(" = -13
            !text figure "w2w" = -12                      # 2 could have gone on as 2<
            !text figure "xx" = -10                       # the first of several
            feed(255, 1); !text figure() = -10; feed(0x76ff, 2); !text figure() = -11      # a byte 255
            feed(0, 1); !text figure() = -10; feed(0x177, 1); figure() = 0      # the lowest byte alone: w
            """);
        s.holds("Terms 4", "(the end of THE TEXT, if it ends too early", """
            !text figure() = -10; !text figure "0" = -11; !text figure "w0" = -12
            !text figure "(" = -11; !text figure "(w" = -12; !text figure "(w)" = -13; !text figure "((w)2" = -15
            !text figure "(w)22" = -15; !text figure "((((" = -14
            figure "0<(w)2" = 0; !text figure "0" = -11; !text figure "0<(w)" = -15       # of an old text nothing is left
            19 * feed(0x77777777, 4); feed(0x77777730, 4) = 80; !text figure() = -90
            """);
        s.holds("Terms 4", "A FIGURE that is not there yet: its letter).", """
            !text figure "A" = -10; !text figure "wA" = -11; figure "w" = 0; figure "AA" = 1
            !text figure "ABC" = -12; !text figure "(AJ)2" = -12; !text figure "C0" = -10; count(3) = 2
            """);
        s.holds("Terms 4", "A FIGURE of more than 300 STEPS is none: refused, THE TEXT being empty.", """
            figure "(((0<1>w)5)5)4" = 0; told(0, -1) = 300; told(0, 299) = 100
            !text figure "Aw" = -2; count(4) = 0; count(3) = 1
            !text figure "wA" = -2; !text figure "AA" = -2; !text figure "(AA)-" = -2
            !text figure "((((w)9)9)9)9" = -2; !text figure "((((A)9)9)9)9((((A)9)9)9)9" = -2
            figure "A" = 1; figure "(A)-" = 2; told(2, -1) = 300; told(2, 0) = 101; told(2, 299) = 1; told(3, -1) = -1
            """);
    }

    private static void termsOfDancing(Sentences s) {
        s.holds("Terms 4", "To DANCE a FIGURE: its STEPS one by one", """
            dance of 4 with 500; figure "0<1>wv" = 0; dance(0) = 4; step(*) = 0 11 100 101 -1
            at(*, 3) = 1 2 0 3; rows() = 2; dance(0) = 4; count(2) = 8; step(4) = 0
            """);
        s.holds("Terms 4", "it ends ahead of one that is not done (p of n or more, too).", """
            dance of 3 with 500; figure "0<3<1<" = 0; dance(0) = 1; count(2) = 1; step(*) = 0 -1
            figure "9>0<" = 1; ! dance(1) = 0; figure "w2<3>" = 2; dance(2) = 2
            new                                           # a RIBBON is too short
            dance of 3 with 20; figure "wwwv" = 0; dance(0) = 2; count(2) = 2; at(*, 2) = 0 0 0; ! dance(0) = 0
            new                                           # what was done stays done, and no later one is tried
            ring of 3 with 12; ribbon(2, 2, 10); begin(); figure "w2<0<" = 0; dance(0) = 1; at(*, 2) = 0 2 2
            new                                           # no room for STEPS, or for ROWS
            dance of 3 with 99999; figure "(((0<1>)9)8)2" = 0; dance(0) = 288; dance(0) = 12; count(2) = 300
            ! dance(0) = 0
            new
            dance of 3 with 99999; figure "((w)9)9" = 0; dance(0) = 81; dance(0) = 19; rows() = 100; count(2) = 100
            new
            dance of 9 with 500; figure "8<9<" = 0; dance(0) = 1
            """);
    }

    private static void feed(Sentences s) {
        s.holds("Promise 22: feed", "The n lowest bytes of a number, the highest first (n 0 .. 4), come behind THE TEXT's: "
            + "how many it has.", """
            feed(7, 0) = 0; feed(0x303c323e, 4) = 4        # 0<2>
            feed(0x7777323c, 2) = 6                       # 2< alone, of ww2<
            feed(0x987376, 1) = 7                          # v
            feed(0xff997777, 2) = 9                         # ww, of a number below 0
            figure() = 0; told(0, *) = 0 21 20 101 100 100 -1
            feed(0x37767777, 3) = 3; figure() = 1; told(1, *) = 101 100 100 -1 # vww of 7vww
            feed(-1, 4) = 4; figure() = -10; feed(0, 0) = 0
            """);
        s.holds("Promise 22: feed", "BAD", """
            ! feed(119, -1) = -2; ! feed(119, 5) = -2; ! feed(119, MIN) = -2; ! feed(119, MAX) = -2
            feed(119, 0) = 0; feed(119, 4) = 4
            19 * feed(119, 4); ! feed(119, 5) = -2; ! feed(119, -1) = -2      # named ahead of FULL
            """);
        s.holds("Promise 22: feed", "FULL", """
            19 * feed(0x77777777, 4); feed(0x7777, 2) = 78; ! feed(0x777777, 3) = -4; ! feed(0x77777777, 4) = -4
            feed(119, 1) = 79; ! feed(0x7777, 2) = -4; feed(119, 1) = 80; ! feed(119, 1) = -4; feed(119, 0) = 80
            figure() = 0; told(0, -1) = 80; feed(119, 1) = 1
            """);
    }

    private static void figure(Sentences s) {
        s.holds("Promise 23: figure", "THE TEXT, which is empty then, is a FIGURE: its number", """
            figure "w" = 0; count(4) = 0; count(3) = 1; figure "0<w" = 1; count(4) = 0; told(1, *) = 0 100 -1
            told(0, *) = 100 -1; !text figure() = -10
            """);
        s.holds("Promise 23: figure", "FULL: there are 10 (THE TEXT stays)", """
            figure "w" = 0; figure "w" = 1; figure "w" = 2; figure "w" = 3; figure "w" = 4
            figure "w" = 5; figure "w" = 6; figure "w" = 7; figure "w" = 8; figure "w" = 9
            ! figure() = -4                               # an empty one, too
            feed "w0" = 2; ! figure() = -4; count(4) = 2; feed "<" = 3; ! figure() = -4; count(4) = 3
            feed "x" = 4; ! figure() = -4; count(3) = 10  # named ahead of the FAULT
            feed "((((w)9)9)9)9" = 17; ! figure() = -4
            """);
        s.holds("Promise 23: figure", "-10 less the FAULT", """
            !text figure "x" = -10; !text figure "wx" = -11; !text figure "0<1<(w)3(" = -19; count(4) = 0
            figure "(((0<1>w)5)5)4" = 0; !text figure "AAx" = -12; !text figure "AA(" = -13       # named ahead of BAD
            """);
        s.holds("Promise 23: figure", "BAD: more than 300 STEPS.", """
            figure "(((0<1>w)5)5)4" = 0; !text figure "Aw" = -2; count(4) = 0; figure "w" = 1
            !text figure "(((w)9)9)9" = -2
            !text figure "(((w)9)8)4(w)9(w)4" = -2        # 301
            figure "(((w)9)8)4(w)9v(w)2" = 2; told(2, -1) = 300
            """);
    }

    private static void told(Sentences s) {
        s.holds("Promise 24: told", "How many STEPS a FIGURE has (i -1), the i-th as step().", """
            figure "0<9>wv" = 0; told(0, -1) = 4; told(0, *) = 0 91 100 101 -1
            figure "(((0<1>w)5)5)4" = 1; told(1, -1) = 300; told(1, 299) = 100; told(1, 298) = 11; told(0, -1) = 4
            """);
        s.holds("Promise 24: told", "NONE.", """
            told(0, -1) = -1; told(0, 0) = -1; figure "0<w" = 0; told(0, 1) = 100; told(0, 2) = -1; told(0, -2) = -1
            told(0, MIN) = -1; told(0, MAX) = -1; told(1, -1) = -1; told(1, 0) = -1; told(-1, -1) = -1; told(-1, 0) = -1
            told(MIN, 0) = -1; told(MAX, 0) = -1; told(10, 0) = -1
            """);
    }

    private static void dance(Sentences s) {
        s.holds("Promise 25: dance", "To DANCE a FIGURE: how many STEPS were done.", """
            dance of 3 with 25; figure "0<w" = 0; dance(0) = 2; count(2) = 2; dance(0) = 2; dance(0) = 0; count(2) = 4
            figure "1>3>" = 1; end(); ring(3); stand(0, 0); stand(1, 1); stand(2, 2); ribbon(1, 0, 2); ribbon(2, 0, 2)
            begin(); dance(1) = 1
            """);
        s.holds("Promise 25: dance", "NONE", """
            dance of 3 with 50; pass(0, 0); ! dance(0) = -1; ! dance(-1) = -1; ! dance(MIN) = -1; ! dance(MAX) = -1
            figure "w" = 0; ! dance(1) = -1; dance(0) = 1; end(); ! dance(1) = -1     # named ahead of STATE
            """);
        s.holds("Promise 25: dance", "STATE: there is no DANCE.", """
            figure "w" = 0; ! dance(0) = -3; ring of 3 with 50; ! dance(0) = -3; begin(); dance(0) = 1; end()
            ! dance(0) = -3
            """);
    }
}
