/** The paragraph "Answers" of the terms, and how long an object is used. */
final class AnswersSentences {
    /** All that an object can hold, in the middle of a DANCE. */
    private static final String IN_A_DANCE = """
        ring of 4 with 60; ribbon(3, 3, 25); person(4, 3, 3); person(0, 2, 2); act(4, 2, 1)
        figure "0<w" = 0; figure "9<" = 1; picture(0, 1, 2); picture(1, 0, 0); tape(0, 0, 4); item(0, 1, 3)
        tape(1, 1, 2); begin() = 4; pass(1, 0); walk(0); pass(2, 1); feed "0<" = 2
        """;
    private static final String BEHIND_A_DANCE = IN_A_DANCE + """
        end() = 3; stand(2, 5) = 1
        """;

    private AnswersSentences() {
    }

    static void tell(Sentences s) {
        numbers(s);
        firstNamed(s);
        changesNothing(s);
        calls(s);
    }

    private static void numbers(Sentences s) {
        String where = "Terms, Answers";
        s.holds(where, "NONE (-1) no such number", """
            stand(0, 0) = -1; ribbon(0, 0, 0) = -1; pass(0, 0) = -1; step(0) = -1; cloth(0, 0, 0) = -1
            picture(100, 0, 0) = -1; colours(1, 0) = -1; akin(0, 0) = -1; told(0, 0) = -1; dance(0) = -1; right(0) = -1
            slips(0, 0) = -1; fewest(6, 0) = -1; spent(0, 0) = -1; trace(0) = -1; tape(6, 0, 0) = -1; item(6, 0, 0) = -1
            shift(6, 0, 0, 0, 0) = -1
            """);
        s.holds(where, "BAD (-2) a number is not as told", """
            person(5, 1, 1) = -2; ring(2) = -2; walk(2) = -2; picture(0, 0, 8) = -2; colours(5, -1) = -2; feed(0, 5) = -2
            taken(0, 5) = -2; count(8) = -2; tape(0, 5, 0) = -2
            """);
        s.holds(where, "STATE (-3) as told", """
            begin() = -3; end() = -3; walk(0) = -3; beat() = -3; colours(1, -1) = -3; akin(-1, -1) = -3; fewest(0, 0) = -3
            set(0, 0) = -3
            """);
        s.holds(where, "FULL (-4)", """
            15 * person(0, 1, 1); person(0, 1, 1) = -4; 40 * picture(0, 0, 0); picture(0, 0, 0) = -4
            20 * feed(0, 4); feed(0, 1) = -4
            """);
    }

    private static void firstNamed(Sentences s) {
        s.holds("Terms, Answers", "the first that a call's words name.", """
            15 * person(0, 1, 1); person(5, 1, 1) = -2    # person: BAD, FULL
            40 * picture(0, 0, 0); picture(100, 0, 8) = -1; picture(100, 0, 0) = -1; picture(0, 0, 8) = -2
            20 * feed(0, 4); feed(0, 5) = -2              # feed: BAD, FULL
            colours(5, 0) = -1; colours(5, -1) = -2       # colours: NONE, BAD, STATE
            form(0, 0) = -99; form(-1, -3) = -99          # form: -99, -98, -97
            akin(0, -1) = -1; dance(0) = -1; right(0) = -1; slips(0, -1) = -1
            fewest(6, -1) = -1; fewest(0, -2) = -1; fewest(0, -1) = -3
            set(0, 9) = -3; spent(0, 0) = -1; taken(15, 5) = -2
            tape(6, 5, -1) = -1; tape(0, 5, -1) = -2; tape(0, 0, -1) = -14
            item(6, -1, 0) = -1; item(0, -1, 0) = -11
            shift(6, -1, 0, -1, -1) = -1; shift(0, -1, 1, -1, -1) = -11
            new
            dance of 3 with 5; person(4, 1, 1)            # in a DANCE
            ring(2) = -2; stand(3, 3) = -1; stand(0, 4) = -1; stand(0, 3) = -3
            ribbon(3, 8, -1) = -1; ribbon(0, 8, -1) = -2; ribbon(0, 0, 0) = -3
            pass(3, 2) = -1; pass(0, 2) = -2; walk(2) = -2; walk(0) = -3
            set(3, 9) = -2; set(15, 9) = -2; set(7, 9) = -1
            figure "3<" = 0; spent(3, 1) = -1; spent(3, 0) = -2; spent(7, 0) = -3; form(0, -3) = -99; form(0, 0) = -97
            end(); stand(3, 3) = -1; stand(0, 3) = -12; pass(3, 2) = -1; pass(0, 2) = -2; walk(2) = -2
            tape(0, 1, 2); fewest(0, -2) = -1; fewest(0, 9) = -12; tape(0, 0, 2); fewest(0, 9) = -13
            tape(0, 0, 3); fewest(0, 9) = -2; item(0, 1, 1); item(0, 2, 2); fewest(0, 9) = -1
            tape(1, 1, 1); shift(0, -1, 1, 9, 9) = -12
            new                                           # figure: FULL, the FAULT, BAD
            figure "(((0<1>w)5)5)4" = 0; figure "AAx" = -12; figure "AA" = -2; figure "w" = 1; figure "w" = 2; figure "w" = 3
            figure "w" = 4; figure "w" = 5; figure "w" = 6; figure "w" = 7; figure "w" = 8; figure "w" = 9; figure "AAx" = -4
            """);
    }

    private static void changesNothing(Sentences s) {
        String sentence = "What is answered so changes nothing, but THE TEXT where told.";
        s.holds("Terms, Answers", sentence, IN_A_DANCE + """
            ! person(5, 1, 1) = -2; ! ring(2) = -2; ! ring(4) = -3; ! stand(4, 0) = -1; ! stand(0, 6) = -1; ! stand(0, 5) = -3
            ! stand(0, 4) = -3; ! ribbon(4, 0, 0) = -1; ! ribbon(0, 8, 0) = -2; ! ribbon(0, 0, 0) = -3; ! at(4, 0) = -6
            ! begin() = -3; ! pass(4, 0) = -1; ! pass(0, 2) = -2; ! walk(2) = -2; ! step(3) = -1; ! cloth(1, 0, 0) = -1
            ! picture(100, 0, 0) = -1; ! picture(0, 0, 8) = -2; ! colours(2, 4) = -1; ! colours(5, 0) = -2
            ! form(2, -1) = -99; ! form(1, -1) = -97; ! akin(2, 0) = -1; ! akin(0, 1) = -3; ! feed(0, 5) = -2
            ! told(2, 0) = -1; ! dance(2) = -1; ! dance(1) = 0; ! right(2) = -1; ! slips(2, -1) = -1; ! slips(0, 99) = -1
            walk(0) = 4; ! walk(0) = -3; ! walk(1) = -3
            """);
        s.holds("Terms, Answers", sentence, IN_A_DANCE + """
            ! fewest(6, -1) = -1; ! fewest(2, -1) = -11; ! fewest(1, -1) = -12; ! fewest(0, -1) = -2; ! set(15, 4) = -1
            ! set(7, 0) = -2; ! set(23, 0) = -2; ! spent(15, 2) = -1; ! spent(15, 1) = -3; ! spent(7, 0) = -2; ! trace(9) = -1
            ! taken(0, 5) = -2; ! taken(6, 0) = -11; ! taken(0, 1) = -12; ! count(8) = -2; ! tape(6, 0, 0) = -1
            ! tape(0, 5, 0) = -2; ! tape(0, 0, 61) = -2; ! tape(0, 0, -1) = -14; ! item(6, 0, 1) = -1; ! item(2, 0, 1) = -11
            ! item(0, 4, 1) = -13; ! read(0, 4) = -1000000000; ! shift(6, 0, 0, 0, 1) = -1; ! shift(0, 0, 2, 0, 1) = -11
            ! shift(0, 0, 1, 0, 1) = -12; ! shift(0, 0, 0, 1, 4) = -13
            """);
        s.holds("Terms, Answers", sentence, BEHIND_A_DANCE + """
            ! ring(2) = -2; ! stand(0, 0) = -3; ! stand(3, 4) = -12; ! ribbon(0, 8, 0) = -2; ! end() = -3; ! pass(0, 0) = -3
            ! walk(0) = -3; ! dance(0) = -3; ! right(0) = -3; ! slips(0, -1) = -3; ! form(0, 9) = -99
            9 * person(0, 1, 1) = 6 ..; ! person(0, 1, 1) = -4
            """);
        s.holds("Terms, Answers", sentence, BEHIND_A_DANCE + """
            ! feed(0, -1) = -2; 19 * feed(0x77777777, 4); ! feed(0, 3) = -4; figure() = 2
            38 * picture(0, 0, 0) = 3 ..; ! picture(0, 0, 0) = -4
            !text figure "0x" = -11; !text figure "0" = -11; figure "(((0<1>w)5)5)4" = 3; !text figure "DD" = -2
            figure "w" = 4; figure "w" = 5; figure "w" = 6; figure "w" = 7; figure "w" = 8; figure "w" = 9
            feed "w" = 1; ! figure() = -4; feed "x" = 2; ! figure() = -4
            """);
        s.holds("Terms, Answers", sentence, """
            ! begin() = -3; ! form(-1, -1) = -98; ! akin(-1, -1) = -3; ! fewest(0, -1) = -3; ! set(0, -1) = -3; ! beat() = -3
            ! colours(1, -1) = -3; ring(4); ! begin() = -3; order 0 tells 0 1 2; ! fewest(0, -1) = -13; ring(8)
            ! fewest(0, -1) = -3; ! set(255, -1) = -3
            new
            dance of 3 with 99999; figure "(((w0<1>)5)4)5" = 0; dance(0) = 300
            ! pass(0, 0) = -4; ! walk(0) = -4; ! dance(0) = 0
            """);
    }

    private static void calls(Sentences s) {
        s.holds("What it is", "An object is used for at most 512 calls after it has been made; what later calls answer is "
            + "free.", """
            dance of 3 with 99999; walk(0) = 1; 249 * pass(0, 0) = 2 ..; 250 * at(0, 1) = 0; rows() = 1
            """);
    }
}
