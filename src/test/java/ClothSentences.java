/** Part 2 of the terms, and the promises 13 to 19: THE CLOTH, BEAT, THE PICTURE. */
final class ClothSentences {
    private ClothSentences() {
    }

    static void tell(Sentences s) {
        termsOfRows(s);
        termsOfTop(s);
        termsOfBeat(s);
        termsOfPicture(s);
        rowsAndCloth(s);
        beat(s);
        picture(s);
        wrong(s);
        colours(s);
    }

    private static void termsOfRows(Sentences s) {
        s.holds("Terms 2", "THE CLOTH: ROWS, 100 at most.", """
            dance of 3 with 99999; figure "((w)9)9((w)9)2"; dance(0) = 99
            walk(0) = 100; rows() = 100; cloth(99, 0, 0) = 2; cloth(100, 0, 0) = -1
            ! walk(0) = -4; rows() = 100
            end(); begin(); walk(0) = 1; rows() = 1
            new                                           # of nine, too
            dance of 9 with 99999; figure "((w)9)9((w)9)2w"; dance(0) = 100; ! walk(0) = -4
            cloth(99, *, 0) = 8 0 1 2 3 4 5 6 7 -1; cloth(99, *, 2) = 7 0 1 2 3 4 5 6 7 -1
            """);
        s.holds("Terms 2", "Each WALK lays a ROW: for each PLACE the RIBBON of who stands there behind it", """
            dance of 4 with 500; pass(0, 0); rows() = 0
            walk(0); rows() = 1; cloth(0, *, 0) = 3 1 0 2
            walk(1); rows() = 2; cloth(1, *, 0) = 1 0 2 3
            pass(3, 1); cloth(1, *, 0) = 1 0 2 3; cloth(0, *, 0) = 3 1 0 2
            walk(1); rows() = 3; cloth(2, *, 0) = 0 2 1 3
            """);
        s.holds("Terms 2", "and for each p its MARK: of the latest PASS at p since the ROW ahead: 1 LOW, 2 HIGH, 0 if "
            + "there was none.", """
            dance of 4 with 500
            pass(0, 0); pass(0, 1); pass(3, 1); pass(3, 0); pass(1, 0)
            walk(0); cloth(0, *, 1) = 2 1 0 1
            walk(1); cloth(1, *, 1) = 0 0 0 0; cloth(0, *, 1) = 2 1 0 1
            pass(2, 1); pass(0, 2) = -2; pass(4, 0) = -1
            walk(1); cloth(2, *, 1) = 0 0 2 0
            pass(2, 0); end(); begin(); walk(0); cloth(0, *, 1) = 0 0 0 0
            new                                           # the one that a FIGURE could not do leaves none
            dance of 3 with 500; figure "1<3<0<" ; dance(0) = 1; walk(0); cloth(0, *, 1) = 0 1 0
            """);
        s.holds("Terms 2", "(A WALK for which there is no room is not done.)", """
            dance of 3 with 99999; figure "((w)9)9((w)9)2w"; dance(0) = 100; pass(1, 0) = 101
            ! walk(0) = -4; ! walk(1) = -4; count(2) = 101; at(*, 3) = 2 1 0; girth() = 43
            figure "v1<"; ! dance(1) = 0                  # nor in a FIGURE, which ends ahead of it
            new
            dance of 3 with 99999; figure "(((0<1>)9)8)2"; dance(0) = 288; 12 * pass(0, 0) = 289 ..
            ! walk(0) = -4; rows() = 0
            """);
    }

    private static void termsOfTop(Sentences s) {
        s.holds("Terms 2", "TOP at p of a ROW: the COLOUR of its RIBBON there", """
            ring of 4 with 500; ribbon(0, 7, 500); ribbon(1, 6, 500); ribbon(2, 5, 500); ribbon(3, 4, 500); begin()
            walk(0); cloth(0, *, 0) = 3 0 1 2; cloth(0, *, 2) = 4 7 6 5
            pass(1, 1); walk(0); cloth(1, *, 1) = 0 2 0 0; cloth(1, *, 0) = 2 3 1 0; cloth(1, *, 2) = 5 4 6 7
            """);
        s.holds("Terms 2", "but if p's MARK is 1 and the one of the PLACE ahead of p is not 2: that of the RIBBON at the "
            + "PLACE behind p.", """
            dance of 4 with 500; pass(1, 0); walk(0)                      # ahead is 0
            cloth(0, *, 0) = 3 0 2 1; cloth(0, *, 1) = 0 1 0 0; cloth(0, *, 2) = 3 2 2 1
            new
            dance of 4 with 500; pass(0, 0); pass(1, 0); walk(0)          # ahead is 1
            cloth(0, *, 0) = 3 1 2 0; cloth(0, *, 1) = 1 1 0 0; cloth(0, *, 2) = 1 2 2 0
            new
            dance of 4 with 500; pass(0, 1); pass(1, 0); walk(0)          # ahead is 2
            cloth(0, *, 0) = 3 1 2 0; cloth(0, *, 1) = 2 1 0 0; cloth(0, *, 2) = 3 1 2 0
            new
            dance of 4 with 500; pass(3, 1); pass(0, 0); walk(0)          # ahead of 0 is the last
            cloth(0, *, 0) = 0 1 3 2; cloth(0, *, 1) = 1 0 0 2; cloth(0, *, 2) = 0 1 3 2
            new
            dance of 4 with 500; pass(3, 0); walk(0)                      # behind the last is 0
            cloth(0, *, 0) = 0 3 1 2; cloth(0, *, 1) = 0 0 0 1; cloth(0, *, 2) = 0 3 1 0
            new
            dance of 4 with 500; pass(0, 0); pass(1, 1); walk(0)          # the one behind does not matter
            cloth(0, *, 0) = 3 1 2 0; cloth(0, *, 1) = 1 2 0 0; cloth(0, *, 2) = 1 1 2 0
            """);
    }

    private static void termsOfBeat(Sentences s) {
        s.holds("Terms 2", "LIKE: two ROWS with like TOPS at all PLACES.", """
            ring of 3 with 500; ribbon(1, 0, 500); ribbon(2, 0, 500); begin()
            walk(0); pass(1, 1); walk(1); beat() = 1      # RIBBONS and MARKS may be unlike
            new                                           # unlike at PLACE 0 alone, then at the last alone
            dance of 3 with 500; 3 * walk(0); pass(0, 1); pass(0, 0); walk(0)
            cloth(0, *, 2) = 2 0 1; cloth(3, *, 2) = 0 0 1; beat() = 4
            new
            dance of 3 with 500; 3 * walk(0); pass(2, 1); pass(2, 0); walk(0)
            cloth(0, *, 2) = 2 0 1; cloth(3, *, 2) = 2 0 2; beat() = 4
            """);
        s.holds("Terms 2", "BEAT of THE CLOTH: the least number b, 1 or more, with which each ROW r, b or more, is LIKE "
            + "ROW r - b", """
            dance of 3 with 500; walk(0); walk(0); beat() = 2; walk(0); beat() = 3; walk(0); beat() = 3
            walk(0); beat() = 3; walk(0); walk(0); beat() = 3; walk(1); beat() = 8
            new
            dance of 3 with 500; walk(0); walk(1); beat() = 2; walk(0); beat() = 2; walk(1); beat() = 2; walk(1); beat() = 5
            new                                           # the first is unlike all that follow
            dance of 3 with 500; pass(0, 0); walk(0); pass(0, 0); walk(1)
            pass(0, 1); walk(0); pass(0, 1); walk(1); cloth(0, *, 2) = 1 1 0; beat() = 4
            new
            dance of 3 with 99999; figure "((w)9)9((w)9)2w"; dance(0) = 100; beat() = 3
            new
            dance of 3 with 99999; figure "((w)9)9((w)9)2v"; dance(0) = 100; beat() = 100
            new                                           # nine PLACES, then three
            dance of 9 with 999; 9 * walk(0); beat() = 9; walk(0); beat() = 9; end(); ring(3); stand(0, 0); stand(1, 1)
            stand(2, 2); ribbon(0, 0, 99); ribbon(1, 1, 99); ribbon(2, 2, 99); begin(); 4 * walk(0) = 1 ..; beat() = 3
            """);
        s.holds("Terms 2", "(THE CLOTH's ROWS, if there are fewer than 2).", """
            dance of 3 with 500; walk(0); rows() = 1; beat() = 1; pass(0, 0); beat() = 1
            """);
    }

    private static void termsOfPicture(Sentences s) {
        s.holds("Terms 2", "A PICTURE: up to 40 told things: a ROW, a PLACE, a COLOUR.", """
            39 * picture(0, 0, 7) = 1 ..; picture(99, 8, 0) = 40; ! picture(0, 0, 7) = -4; count(5) = 40
            """);
        s.holds("Terms 2", "WRONG: how many of these are not TOP there (a ROW that is not there is wrong).", """
            wrong() = 0
            dance of 3 with 500; picture(0, 0, 2); wrong() = 1
            walk(0); cloth(0, *, 2) = 2 0 1; wrong() = 0
            picture(0, 0, 2); wrong() = 0; picture(0, 0, 1); wrong() = 1; picture(0, 2, 0); wrong() = 2
            picture(1, 0, 0); wrong() = 3; picture(99, 0, 0); wrong() = 4
            new                                           # by TOP, not by the RIBBON itself
            dance of 3 with 500; pass(1, 0); walk(0); cloth(0, *, 0) = 1 0 2; cloth(0, *, 2) = 1 2 2
            picture(0, 1, 2); wrong() = 0; picture(0, 1, 0); wrong() = 1
            new                                           # each by its own ROW
            dance of 3 with 500; 3 * walk(0); cloth(0, *, 2) = 2 0 1; cloth(1, *, 2) = 1 2 0; cloth(2, *, 2) = 0 1 2
            picture(0, 0, 2); picture(1, 0, 1); picture(2, 0, 0); picture(2, 2, 2); wrong() = 0; picture(1, 0, 2); wrong() = 1
            """);
        s.holds("Terms 2", "FOR COLOURS: which COLOURS (0 .. c - 1, c 1 .. 4) the RIBBONS should have had so that fewest "
            + "are wrong", """
            dance of 3 with 500; walk(0); cloth(0, *, 0) = 2 0 1
            picture(0, 0, 3); picture(0, 1, 1); picture(0, 2, 2)
            colours(4, -1) = 0; colours(4, *) = 1 2 3
            colours(3, -1) = 1; colours(3, *) = 1 2 0
            colours(2, -1) = 2; colours(2, *) = 1 0 0
            colours(1, -1) = 3; colours(1, *) = 0 0 0
            colours(0, -1) = -2; colours(5, -1) = -2
            picture(0, 0, 2); picture(0, 0, 2); colours(4, -1) = 1; colours(4, *) = 1 2 2
            picture(0, 1, 7); picture(0, 1, 7); colours(4, -1) = 3; colours(4, 0) = 1     # 7 is no COLOUR of four
            at(*, 1) = 2 0 1; wrong() = 5                 # nothing is coloured by it
            new                                           # RIBBONS that are TOP, of several ROWS
            dance of 4 with 500; pass(1, 0); walk(0); pass(3, 0); walk(1)
            cloth(0, *, 0) = 3 0 2 1; cloth(0, 1, 1) = 1; cloth(1, *, 0) = 0 2 3 1; cloth(1, 3, 1) = 1
            picture(0, 1, 3); picture(1, 3, 2); colours(4, *) = 2 0 3 0; colours(4, -1) = 0
            picture(2, 0, 1); picture(0, 4, 1); colours(4, -1) = 2
            """);
        s.holds("Terms 2", "of several the first row of these (by PLACES at the beginning, from 0 on, the lesser first)", """
            dance of 3 with 500; walk(0); colours(4, *) = 0 0 0; colours(4, -1) = 0
            picture(0, 0, 2); picture(0, 0, 1); picture(0, 0, 3)
            colours(4, *) = 0 0 1; colours(4, -1) = 2     # RIBBON 2 is at PLACE 0
            picture(0, 1, 3); picture(0, 1, 0); colours(4, *) = 0 0 1; colours(4, -1) = 3
            picture(0, 1, 3); colours(4, *) = 3 0 1; colours(4, -1) = 3
            picture(0, 2, 2); picture(0, 2, 3); picture(0, 2, 3); picture(0, 2, 2); colours(4, *) = 3 2 1
            """);
        s.holds("Terms 2", "n up to 6.", """
            dance of 6 with 500; walk(0); picture(0, 0, 3); colours(4, -1) = 0; colours(4, *) = 0 0 0 0 0 3
            new
            dance of 7 with 500; walk(0); picture(0, 0, 3); colours(4, -1) = -3; colours(4, 6) = -3
            """);
    }

    private static void rowsAndCloth(Sentences s) {
        s.holds("Promise 13: rows", "How many ROWS.", """
            rows() = 0
            ring of 3 with 30; rows() = 0; begin(); rows() = 0; walk(0); rows() = 1; pass(0, 0); rows() = 1
            walk(1); rows() = 2; walk(0) = -3; rows() = 2; end(); rows() = 2; begin(); rows() = 0
            new
            dance of 3 with 500; walk(0); end(); ring(4); rows() = 0
            """);
        s.holds("Promise 14: cloth", "Of a ROW at a PLACE: what 0 which RIBBON, 1 MARK, 2 TOP.", """
            ring of 3 with 500; ribbon(0, 5, 500); ribbon(1, 6, 500); ribbon(2, 7, 500); begin()
            pass(0, 0); walk(0); pass(2, 1); walk(1)
            cloth(0, *, 0) = 2 1 0 -1; cloth(0, *, 1) = 1 0 0 -1; cloth(0, *, 2) = 6 6 5 -1
            cloth(1, *, 0) = 1 2 0 -1; cloth(1, *, 1) = 0 0 2 -1; cloth(1, *, 2) = 6 7 5 -1
            cloth(*, 0, 2) = 6 6 -1; cloth(0, 2, *) = 0 0 5 -1
            """);
        s.holds("Promise 14: cloth", "NONE.", """
            cloth(0, 0, 0) = -1
            dance of 3 with 500; cloth(0, 0, 0) = -1; walk(0); cloth(0, 0, 0) = 2; cloth(0, 2, 2) = 1
            cloth(-1, 0, 0) = -1; cloth(1, 0, 0) = -1; cloth(MIN, 0, 0) = -1; cloth(MAX, 0, 0) = -1
            cloth(0, -1, 0) = -1; cloth(0, 3, 0) = -1; cloth(0, MIN, 0) = -1; cloth(0, MAX, 0) = -1
            cloth(0, 0, -1) = -1; cloth(0, 0, 3) = -1; cloth(0, 0, MIN) = -1; cloth(0, 0, MAX) = -1
            new                                           # what a larger CLOTH had is gone
            dance of 9 with 500; walk(0); walk(0); end(); ring(3); stand(0, 0); stand(1, 1); stand(2, 2)
            ribbon(0, 0, 50); ribbon(1, 0, 50); ribbon(2, 0, 50); begin(); walk(0)
            cloth(0, 2, 0) = 1; cloth(0, 3, 0) = -1; cloth(1, 0, 0) = -1
            """);
    }

    private static void beat(Sentences s) {
        s.holds("Promise 15: beat", "BEAT.", """
            dance of 4 with 500; walk(0); beat() = 1; walk(0); beat() = 2; walk(1); beat() = 2; walk(0); beat() = 2
            walk(0); beat() = 5; end(); ribbon(0, 7, 0); beat() = 5
            """);
        s.holds("Promise 15: beat", "STATE: THE CLOTH has no ROWS.", """
            ! beat() = -3
            ring of 3 with 50; ! beat() = -3; begin(); ! beat() = -3; pass(0, 0); ! beat() = -3; walk(0); beat() = 1
            end(); beat() = 1; begin(); ! beat() = -3
            new
            dance of 3 with 50; walk(0); end(); ring(3); ! beat() = -3
            """);
    }

    private static void picture(Sentences s) {
        s.holds("Promise 16: picture", "A thing is told of THE PICTURE: how many.", """
            picture(0, 0, 0) = 1; picture(99, 8, 7) = 2; picture(99, 8, 7) = 3; count(5) = 3; wrong() = 3
            """);
        s.holds("Promise 16: picture", "NONE: row (0 .. 99), place (0 .. 8)", """
            ! picture(-1, 0, 0) = -1; ! picture(100, 0, 0) = -1; ! picture(MIN, 0, 0) = -1; ! picture(MAX, 0, 0) = -1
            ! picture(0, -1, 0) = -1; ! picture(0, 9, 0) = -1; ! picture(0, MIN, 0) = -1; ! picture(0, MAX, 0) = -1
            ! picture(100, 0, 8) = -1; ! picture(0, 9, 8) = -1        # named ahead of BAD
            picture(0, 0, 0) = 1; picture(99, 0, 0) = 2; picture(0, 8, 0) = 3
            38 * picture(0, 0, 0); ! picture(100, 0, 0) = -1; ! picture(0, 9, 0) = -1     # and of FULL
            """);
        s.holds("Promise 16: picture", "BAD: colour", """
            ! picture(0, 0, -1) = -2; ! picture(0, 0, 8) = -2; ! picture(0, 0, MIN) = -2; ! picture(0, 0, MAX) = -2
            picture(0, 0, 0) = 1; picture(0, 0, 7) = 2
            38 * picture(0, 0, 0); ! picture(0, 0, 8) = -2            # named ahead of FULL
            """);
        s.holds("Promise 16: picture", "FULL", """
            39 * picture(5, 5, 5); picture(5, 5, 5) = 40; ! picture(5, 5, 5) = -4; ! picture(0, 0, 0) = -4
            pictureless() = 40; picture(5, 5, 5) = 1
            """);
        s.holds("Promise 17: pictureless", "THE PICTURE is empty: how many things it had.", """
            pictureless() = 0; picture(0, 0, 0); picture(9, 0, 0); pictureless() = 2; count(5) = 0; wrong() = 0
            pictureless() = 0; picture(0, 0, 1) = 1; wrong() = 1
            39 * picture(0, 0, 0); pictureless() = 40
            new                                           # nothing else empties it
            picture(0, 0, 2); dance of 3 with 500; count(5) = 1; walk(0); end(); wrong() = 0; begin(); end(); ring(3)
            pictureless() = 1
            """);
    }

    private static void wrong(Sentences s) {
        s.holds("Promise 18: wrong", "WRONG", """
            dance of 3 with 500; pass(0, 0); walk(0); cloth(0, *, 2) = 1 1 0
            picture(0, 0, 1); picture(0, 1, 1); picture(0, 2, 0); wrong() = 0
            picture(0, 0, 2); wrong() = 1; picture(0, 0, 2); wrong() = 2
            end(); ribbon(0, 7, 0); ribbon(1, 7, 0); ribbon(2, 7, 0); wrong() = 2; begin(); wrong() = 5
            new
            40 * picture(0, 0, 0); wrong() = 40
            """);
        s.holds("Promise 18: wrong", "(a PLACE beyond THE CLOTH's is wrong, too)", """
            dance of 3 with 500; walk(0); picture(0, 2, 1); wrong() = 0; picture(0, 3, 0); wrong() = 1
            picture(0, 8, 0); wrong() = 2
            new
            dance of 9 with 500; walk(0); picture(0, 8, 7); wrong() = 0       # RIBBON 7 is at 8
            """);
    }

    private static void colours(Sentences s) {
        s.holds("Promise 19: colours", "FOR COLOURS: what -1 how many are wrong then, 0 .. n - 1 the COLOUR of that "
            + "RIBBON.", """
            dance of 4 with 500; walk(1); cloth(0, *, 0) = 1 2 3 0
            picture(0, 3, 3); picture(0, 2, 2); picture(0, 2, 1); picture(0, 4, 0); picture(1, 0, 0)
            colours(4, -1) = 3; colours(4, *) = 3 0 0 1; colours(2, -1) = 4; colours(2, *) = 0 0 0 1
            end(); colours(4, -1) = 3; colours(4, *) = 3 0 0 1        # by PLACES at the beginning still
            """);
        s.holds("Promise 19: colours", "NONE: what", """
            ! colours(2, 0) = -1                          # no RING: no RIBBON
            dance of 3 with 500; ! colours(2, 3) = -1; walk(0)
            ! colours(2, 3) = -1; ! colours(2, -2) = -1; ! colours(2, MIN) = -1; ! colours(2, MAX) = -1
            ! colours(0, 3) = -1; ! colours(5, -2) = -1   # named ahead of BAD
            colours(2, 2) = 0; colours(2, -1) = 0
            new
            dance of 7 with 500; walk(0); ! colours(2, 7) = -1        # and of STATE
            """);
        s.holds("Promise 19: colours", "BAD: c", """
            dance of 3 with 500; walk(0)
            ! colours(0, -1) = -2; ! colours(5, -1) = -2; ! colours(-1, 0) = -2; ! colours(MIN, 0) = -2
            ! colours(MAX, 0) = -2; colours(1, 0) = 0; colours(4, 0) = 0
            end(); ring(3); ! colours(0, -1) = -2; ! colours(5, 0) = -2       # named ahead of STATE
            new
            dance of 7 with 500; walk(0); ! colours(5, 0) = -2
            """);
        s.holds("Promise 19: colours", "STATE: THE CLOTH has no ROWS, or n is above 6.", """
            ! colours(2, -1) = -3
            dance of 3 with 500; ! colours(2, -1) = -3; ! colours(2, 0) = -3; walk(0); colours(2, -1) = 0
            end(); colours(2, -1) = 0; begin(); ! colours(2, -1) = -3
            new
            dance of 6 with 500; walk(0); colours(2, -1) = 0; colours(2, 5) = 0
            new
            dance of 7 with 500; walk(0); ! colours(2, -1) = -3; ! colours(2, 6) = -3
            new
            dance of 9 with 500; walk(0); ! colours(2, -1) = -3; ! colours(2, 8) = -3
            """);
    }
}
