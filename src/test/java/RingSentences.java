/** Part 1 of the terms, and the promises 1 to 12: people, the ring, steps. */
final class RingSentences {
    private RingSentences() {
    }

    static void tell(Sentences s) {
        termsOfRing(s);
        termsOfDance(s);
        termsOfSteps(s);
        newObjectAndPerson(s);
        ring(s);
        stand(s);
        ribbonAndAt(s);
        beginAndEnd(s);
        pass(s);
        walk(s);
        girthAndStep(s);
    }

    private static void termsOfRing(Sentences s) {
        s.holds("Terms 1", "THE RING has n PLACES (3 .. 9; 0 as long as there is none)", """
            count(1) = 0; at(0, 1) = -6
            ! ring(2) = -2; count(1) = 0
            ring(3) = 1; count(1) = 3; at(2, 1) = 0; at(3, 1) = -6
            ! ring(2) = -2
            ring(9) = 1; count(1) = 9; at(8, 1) = 0; at(9, 1) = -6
            ! ring(10) = -2; count(1) = 9
            ring(3) = 1; count(1) = 3; at(3, 1) = -6
            """);
        s.holds("Terms 1", "in a round: behind the last comes 0.", """
            dance of 3 with 50; pass(2, 0) = 1; at(*, 3) = 2 1 0
            new
            dance of 9 with 50; pass(8, 1) = 1; at(*, 3) = 8 1 2 3 4 5 6 7 0
            """);
        s.holds("Terms 1", "PEOPLE 0 .. 14, as they come", """
            15 * person(0, 1, 1) = 0 ..
            taken(14, 0) = 0; taken(15, 0) = -11
            ! person(0, 1, 1) = -4; count(0) = 15
            """);
        s.holds("Terms 1", "of KINDS: 0 DANCER, 1 CHILD under DANCER, 2 LEADER under DANCER, 3 FOOL under LEADER, "
            + "4 PIPER, under 0 as well", """
            person(0, 1, 1); person(1, 1, 1); person(2, 1, 1); person(3, 1, 1); person(4, 1, 1)
            taken(0, *) = 0 -12 -12 -12 -12
            taken(1, *) = 1 1 -12 -12 -12
            taken(2, *) = 2 -12 2 -12 -12
            taken(3, *) = 3 -12 3 3 -12
            taken(4, *) = 4 -12 -12 -12 4
            """);
        s.holds("Terms 1", "each has a REACH (1 .. 20) and a PACE (1 .. 9).", """
            person(0, 1, 9) = 0; person(0, 20, 1) = 1
            act(0, 0, 100) = 101; act(0, 1, 100) = 92     # x + REACH, and that less PACE
            act(1, 0, 100) = 120; act(1, 1, 100) = 119
            ! person(0, 0, 5) = -2; ! person(0, 21, 5) = -2
            ! person(0, 5, 0) = -2; ! person(0, 5, 10) = -2
            """);
        s.holds("Terms 1", "At each PLACE stands one of them at most (no PIPER)", """
            ring(3); person(0, 1, 1); person(1, 1, 1); person(4, 1, 1)
            stand(1, 0) = -5; stand(1, 1) = 0
            at(*, 0) = -5 1 -5                            # who stood there is gone
            stand(2, 0) = -5                              # and can stand elsewhere
            ! stand(0, 2) = -12; ! stand(1, 2) = -12
            at(*, 0) = -5 1 0
            """);
        s.holds("Terms 1", "a RIBBON of a COLOUR (0 .. 7) and a LENGTH (0 .. 99999)", """
            ring(3)
            ribbon(1, 7, 99999) = 1; at(1, 1) = 7; at(1, 2) = 99999
            ! ribbon(1, 8, 5) = -2; ! ribbon(1, -1, 5) = -2
            ! ribbon(1, 5, 100000) = -2; ! ribbon(1, 5, -1) = -2
            ribbon(1, 0, 0) = 1; at(1, 1) = 0; at(1, 2) = 0
            """);
        s.holds("Terms 1", "hangs there for whoever stands there", """
            ring(3); person(0, 1, 1); person(0, 1, 1)
            ribbon(2, 4, 44) = 1                          # nobody stands there yet
            stand(2, 0) = -5; at(2, 1) = 4; at(2, 2) = 44
            stand(2, 1) = 0; at(2, 1) = 4; at(2, 2) = 44  # another one comes: the RIBBON stays
            """);
        s.holds("Terms 1", "it goes with them in the dance.", """
            dance of 4 with 100; pass(1, 0)
            at(*, 0) = 0 2 1 3; at(*, 1) = 0 2 1 3; at(*, 2) = 100 98 99 100
            walk(0)
            at(*, 0) = 3 0 2 1; at(*, 1) = 3 0 2 1; at(*, 2) = 90 90 88 89
            """);
    }

    private static void termsOfDance(Sentences s) {
        s.holds("Terms 1", "A DANCE begins when all PLACES are taken", """
            ring(3); 3 * person(0, 1, 1)
            ! begin() = -3
            stand(0, 0); ! begin() = -3
            stand(1, 1); ! begin() = -3
            stand(2, 2); begin() = 3; count(6) = 1
            new                                           # the first, and one between, is not taken
            ring(3); 3 * person(0, 1, 1); stand(1, 1); stand(2, 2); ! begin() = -3
            new
            ring(3); 3 * person(0, 1, 1); stand(0, 1); stand(2, 2); ! begin() = -3
            """);
        s.holds("Terms 1", "THE CLOTH and THE DANCE are empty then.", """
            dance of 3 with 500; pass(0, 0); walk(0); pass(1, 0)
            rows() = 1; count(2) = 3
            end() = 3; begin() = 3
            rows() = 0; count(2) = 0; step(0) = -1; cloth(0, 0, 0) = -1; beat() = -3; girth() = 10
            walk(0) = 1; cloth(0, *, 1) = 0 0 0           # no MARK of the DANCE ahead
            """);
        s.holds("Terms 1", "RIBBONS are called by the PLACE at which they were then.", """
            dance of 3 with 500; walk(0); at(*, 3) = 2 0 1
            end(); begin(); at(*, 3) = 0 1 2
            at(*, 1) = 2 0 1
            walk(0); at(*, 3) = 2 0 1; cloth(0, *, 0) = 2 0 1; at(*, 1) = 1 2 0
            """);
        s.holds("Terms 1", "Till it ends nobody and no RIBBON is changed but by steps.", """
            dance of 3 with 500; person(0, 1, 1); pass(0, 0); walk(1)
            ! ring(3) = -3; ! ring(4) = -3
            ! stand(0, 3) = -3; ! stand(2, 3) = -3
            ! ribbon(0, 7, 7) = -3; ! ribbon(2, 0, 500) = -3
            ! begin() = -3
            end() = 2; stand(0, 3) = 0; ribbon(0, 7, 7) = 1; ring(4) = 1
            """);
    }

    private static void termsOfSteps(Sentences s) {
        s.holds("Terms 1", "STEPS: a PASS at p (p 0 .. n - 1), LOW or HIGH: those at p and at the PLACE behind it "
            + "change places", """
            dance of 4 with 100; pass(0, 0) = 1; at(*, 3) = 1 0 2 3
            pass(3, 0) = 2; at(*, 3) = 3 0 2 1
            ! pass(4, 0) = -1; ! pass(-1, 0) = -1
            new
            dance of 4 with 100; pass(0, 1) = 1; at(*, 3) = 1 0 2 3
            pass(3, 1) = 2; at(*, 3) = 3 0 2 1
            """);
        s.holds("Terms 1", "LOW: the one from p goes inside, HIGH: the other one.", """
            dance of 3 with 100; pass(1, 0); at(*, 3) = 0 2 1; at(*, 2) = 100 98 99
            new
            dance of 3 with 100; pass(1, 1); at(*, 3) = 0 2 1; at(*, 2) = 100 99 98
            """);
        s.holds("Terms 1", "A WALK, ON or BACK: all go one PLACE on (from the last to 0), or back.", """
            dance of 4 with 100; walk(0) = 1; at(*, 3) = 3 0 1 2; at(*, 0) = 3 0 1 2
            new
            dance of 4 with 100; walk(1) = 1; at(*, 3) = 1 2 3 0; at(*, 0) = 1 2 3 0
            new
            dance of 9 with 100; walk(0) = 1; at(*, 3) = 8 0 1 2 3 4 5 6 7
            """);
        s.holds("Terms 1", "A PASS takes of the RIBBON of who goes inside 1, of the other's 2", """
            dance of 3 with 3
            pass(2, 0) = 1; at(*, 2) = 2 3 1              # from 2 inside; it is at 0 now
            pass(2, 0) = 2; at(*, 2) = 0 3 0              # from 2, which is RIBBON 0
            ! pass(2, 0) = -3; ! pass(2, 1) = -3
            """);
        s.holds("Terms 1", "a WALK takes GIRTH of each: 10, and one more for each 3 ROWS of THE CLOTH there are, cut.", """
            dance of 3 with 1000
            walk(0); at(*, 2) = 990 990 990
            walk(0); at(0, 2) = 980; walk(1); at(0, 2) = 970
            pass(0, 0)                                    # a PASS lays no ROW
            walk(0); at(*, 2) = 959 957 958
            walk(0); at(0, 2) = 947; walk(0); at(0, 2) = 935
            walk(0); at(*, 2) = 925 923 924
            new                                           # 3 * (10 .. 42), and 43 for the 100th
            dance of 3 with 99999; figure "(((w)9)9)-((w)9)2w"; dance(0) = 100
            at(0, 2) = 97382; girth() = 43
            """);
        s.holds("Terms 1", "A STEP for which a RIBBON is too short is not done.", """
            ring of 3 with 2; ribbon(0, 0, 1); begin()
            pass(0, 0) = 1; at(*, 2) = 0 0 2              # just enough: 1 inside, 2 outside
            new
            ring of 3 with 2; ribbon(0, 0, 0); begin(); ! pass(0, 0) = -3; ! pass(0, 1) = -3
            new
            ring of 3 with 2; ribbon(1, 0, 1); begin(); ! pass(0, 0) = -3; pass(0, 1) = 1
            new
            ring of 3 with 10; begin(); walk(0) = 1; at(*, 2) = 0 0 0; ! walk(0) = -3
            new
            ring of 3 with 10; ribbon(2, 0, 9); begin(); ! walk(0) = -3; ! walk(1) = -3
            new
            ring of 3 with 10; ribbon(0, 0, 9); begin(); ! walk(0) = -3; ! walk(1) = -3
            new
            dance of 3 with 41; 4 * walk(0) = 1 ..; at(*, 2) = 0 0 0
            new
            dance of 3 with 40; 3 * walk(0) = 1 ..; ! walk(0) = -3; at(*, 2) = 10 10 10
            """);
        s.holds("Terms 1", "A STEP's UNDOING: of a PASS at p the one at p the other way (LOW, HIGH), of a WALK the other "
            + "one.", """
            figure "(0<)-" = 0; told(0, *) = 1 -1
            figure "(9>)-" = 1; told(1, *) = 90 -1
            figure "(w)-" = 2; told(2, *) = 101 -1
            figure "(v)-" = 3; told(3, *) = 100 -1
            """);
        s.holds("Terms 1", "THE DANCE: the STEPS that were done, 300 at most.", """
            dance of 3 with 3
            pass(0, 0) = 1; pass(0, 0) = 2; pass(0, 0) = -3; walk(0) = -3
            count(2) = 2; step(*) = 0 0 -1                # what was not done is not there
            new
            dance of 3 with 99999; figure "(((0<1>)9)8)2"; dance(0) = 288
            12 * pass(0, 0) = 289 ..
            count(2) = 300; step(299) = 0; step(300) = -1
            ! pass(0, 0) = -4; ! walk(1) = -4; ! dance(0) = 0
            end() = 300
            """);
    }

    private static void newObjectAndPerson(Sentences s) {
        s.holds("Promise 1: A new object", "No RING, nobody.", """
            count(*) = 0 0 0 0 0 0 0 0 -2
            at(0, 0) = -6; taken(0, 0) = -11; begin() = -3; end() = -3; rows() = 0; girth() = 10
            stand(0, 0) = -1; ribbon(0, 0, 0) = -1; set(0, -1) = -3; told(0, -1) = -1; trace(0) = -1
            read(0, 0) = -1000000000; wrong() = 0; pictureless() = 0; form(-1, -1) = -98; akin(-1, -1) = -3
            """);
        s.holds("Promise 2: person", "A PERSON: the number.", """
            person(0, 5, 5) = 0; person(4, 20, 9) = 1; person(1, 1, 1) = 2; count(0) = 3
            """);
        s.holds("Promise 2: person", "BAD: kind (0 .. 4), reach, pace", """
            ! person(-1, 5, 5) = -2; ! person(5, 5, 5) = -2; ! person(MIN, 5, 5) = -2; ! person(MAX, 5, 5) = -2
            ! person(0, 0, 5) = -2; ! person(0, 21, 5) = -2; ! person(0, MIN, 5) = -2; ! person(0, MAX, 5) = -2
            ! person(0, 5, 0) = -2; ! person(0, 5, 10) = -2; ! person(0, 5, MIN) = -2; ! person(0, 5, MAX) = -2
            person(0, 1, 1) = 0; person(4, 20, 9) = 1
            """);
        s.holds("Promise 2: person", "FULL", """
            14 * person(2, 5, 5) = 0 ..; person(4, 5, 5) = 14
            ! person(2, 5, 5) = -4; count(0) = 15
            ! person(5, 5, 5) = -2; ! person(2, 21, 5) = -2; ! person(2, 5, 0) = -2   # BAD is named ahead of it
            """);
    }

    private static void ring(Sentences s) {
        s.holds("Promise 3: ring", "THE RING has n PLACES, nobody stands there, RIBBONS of COLOUR 0, LENGTH 0: 1.", """
            ring of 5 with 500; ring(4) = 1; count(1) = 4
            at(*, 0) = -5 -5 -5 -5 -6; at(*, 1) = 0 0 0 0 -6; at(*, 2) = 0 0 0 0 -6; at(*, 3) = 0 1 2 3 -6
            ring(5) = 1; at(*, 0) = -5 -5 -5 -5 -5 -6; at(*, 1) = 0 0 0 0 0 -6; at(*, 2) = 0 0 0 0 0 -6
            stand(4, 4) = -5                              # who stood there stands nowhere now
            new                                           # behind a DANCE, too
            dance of 3 with 500; walk(0); end(); ring(3) = 1
            at(*, 0) = -5 -5 -5; at(*, 1) = 0 0 0; at(*, 2) = 0 0 0; at(*, 3) = 0 1 2
            """);
        s.holds("Promise 3: ring", "BAD", """
            ! ring(2) = -2; ! ring(10) = -2; ! ring(0) = -2; ! ring(-3) = -2; ! ring(MIN) = -2; ! ring(MAX) = -2
            new
            ring of 4 with 500; ! ring(2) = -2; ! ring(10) = -2
            begin() = 4; ! ring(2) = -2; ! ring(10) = -2  # named ahead of STATE
            """);
        s.holds("Promise 3: ring", "STATE: there is a DANCE.", """
            ring of 3 with 500; begin(); walk(0)
            ! ring(3) = -3; ! ring(9) = -3
            end(); ring(9) = 1; count(1) = 9
            """);
    }

    private static void stand(Sentences s) {
        s.holds("Promise 4: stand", "A PERSON stands at a PLACE: who stood there (-5: nobody).", """
            ring(3); person(0, 1, 1); person(1, 1, 1); person(3, 1, 1); person(2, 1, 1)
            stand(0, 0) = -5; stand(2, 1) = -5; stand(0, 3) = 0; stand(2, 0) = 1
            at(*, 0) = 3 -5 0
            """);
        s.holds("Promise 4: stand", "NONE: place, person", """
            person(0, 1, 1); ! stand(0, 0) = -1           # no RING: no PLACE
            ring(3); person(0, 1, 1)
            ! stand(-1, 0) = -1; ! stand(3, 0) = -1; ! stand(MIN, 0) = -1; ! stand(MAX, 0) = -1
            ! stand(0, -1) = -1; ! stand(0, 2) = -1; ! stand(0, MIN) = -1; ! stand(0, MAX) = -1
            ! stand(0, -5) = -1                           # what tells of nobody is no number of one
            stand(2, 1) = -5
            new                                           # named ahead of STATE
            dance of 3 with 5; ! stand(3, 0) = -1; ! stand(0, 3) = -1
            """);
        s.holds("Promise 4: stand", "STATE: there is a DANCE, or the PERSON stands in THE RING", """
            ring of 3 with 5; person(0, 1, 1); person(4, 1, 1)
            ! stand(0, 0) = -3; ! stand(0, 2) = -3; ! stand(2, 0) = -3
            begin()
            ! stand(0, 3) = -3; ! stand(2, 3) = -3
            ! stand(0, 4) = -3                            # a PIPER: named ahead of CAST
            end(); stand(2, 3) = 2
            """);
        s.holds("Promise 4: stand", "CAST: a PIPER.", """
            ring(3); person(4, 1, 1); person(3, 1, 1)
            ! stand(0, 0) = -12; stand(0, 1) = -5; ! stand(0, 0) = -12; at(0, 0) = 1
            """);
    }

    private static void ribbonAndAt(Sentences s) {
        s.holds("Promise 5: ribbon", "The RIBBON of a PLACE: 1.", """
            ring(3); ribbon(0, 3, 33) = 1; ribbon(2, 7, 99999) = 1; ribbon(0, 4, 44) = 1
            at(*, 1) = 4 0 7; at(*, 2) = 44 0 99999
            """);
        s.holds("Promise 5: ribbon", "NONE", """
            ! ribbon(0, 0, 0) = -1
            ring(3); ! ribbon(3, 0, 0) = -1; ! ribbon(-1, 0, 0) = -1; ! ribbon(MAX, 0, 0) = -1; ! ribbon(MIN, 0, 0) = -1
            ! ribbon(3, 8, 0) = -1; ! ribbon(3, 0, -1) = -1   # named ahead of BAD
            ribbon(2, 0, 0) = 1
            new
            dance of 3 with 5; ! ribbon(3, 0, 0) = -1     # named ahead of STATE
            """);
        s.holds("Promise 5: ribbon", "BAD: colour, length", """
            ring(3); ribbon(1, 1, 1)
            ! ribbon(1, -1, 5) = -2; ! ribbon(1, 8, 5) = -2; ! ribbon(1, MIN, 5) = -2; ! ribbon(1, MAX, 5) = -2
            ! ribbon(1, 5, -1) = -2; ! ribbon(1, 5, 100000) = -2; ! ribbon(1, 5, MIN) = -2; ! ribbon(1, 5, MAX) = -2
            ribbon(1, 7, 0) = 1; ribbon(1, 0, 99999) = 1
            new
            dance of 3 with 5; ! ribbon(1, 8, 5) = -2; ! ribbon(1, 5, 100000) = -2   # named ahead of STATE
            """);
        s.holds("Promise 5: ribbon", "STATE: there is a DANCE.", """
            dance of 3 with 5; ! ribbon(0, 7, 99999) = -3; ! ribbon(2, 7, 99999) = -3
            end(); ribbon(0, 7, 99999) = 1
            """);
        s.holds("Promise 6: at", "At a PLACE: what 0 the PERSON (-5: nobody)", """
            ring(4); person(0, 1, 1); person(0, 1, 1); stand(1, 1); at(*, 0) = -5 1 -5 -5
            new
            dance of 3 with 50; pass(0, 0); at(*, 0) = 1 0 2; walk(0); at(*, 0) = 2 1 0; end(); at(*, 0) = 2 1 0
            """);
        s.holds("Promise 6: at", "1 COLOUR", """
            ring(3); at(*, 1) = 0 0 0; ribbon(0, 7, 1); ribbon(1, 5, 2); ribbon(2, 0, 3); at(*, 1) = 7 5 0
            new
            dance of 3 with 50; pass(0, 0); at(*, 1) = 1 0 2; end(); at(*, 1) = 1 0 2
            """);
        s.holds("Promise 6: at", "2 LENGTH that is left", """
            ring(3); at(*, 2) = 0 0 0; ribbon(0, 7, 99999); ribbon(1, 5, 2); at(*, 2) = 99999 2 0
            new
            dance of 3 with 50; pass(0, 0); at(*, 2) = 48 49 50; walk(0); at(*, 2) = 40 38 39; end(); at(*, 2) = 40 38 39
            """);
        s.holds("Promise 6: at", "3 which RIBBON (in a DANCE; else its own PLACE).", """
            ring(3); at(*, 3) = 0 1 2
            new
            dance of 3 with 50; at(*, 3) = 0 1 2; pass(0, 0); at(*, 3) = 1 0 2; walk(1); at(*, 3) = 0 2 1
            end(); at(*, 3) = 0 1 2
            """);
        s.holds("Promise 6: at", "-6: none such.", """
            at(0, 0) = -6; at(-1, 0) = -6; at(0, 3) = -6
            ring(3); at(3, 0) = -6; at(-1, 0) = -6; at(MIN, 0) = -6; at(MAX, 0) = -6
            at(0, -1) = -6; at(0, 4) = -6; at(0, MIN) = -6; at(0, MAX) = -6; at(2, 3) = 2
            new
            dance of 4 with 50; walk(0); at(4, 3) = -6; at(-1, 3) = -6; at(3, 4) = -6; at(3, -1) = -6
            """);
    }

    private static void beginAndEnd(Sentences s) {
        s.holds("Promise 7: begin", "A DANCE begins: n.", """
            ring of 3 with 5; begin() = 3; count(6) = 1
            new
            ring of 9 with 0; begin() = 9; count(6) = 1; at(*, 3) = 0 1 2 3 4 5 6 7 8
            """);
        s.holds("Promise 7: begin", "STATE: there is one, or a PLACE is not taken (no RING, too).", """
            ! begin() = -3
            person(0, 1, 1); ! begin() = -3
            new
            ring of 3 with 50; begin() = 3; walk(0); ! begin() = -3; end(); begin() = 3; ! begin() = -3
            new
            ring of 4 with 50; ring(4); ! begin() = -3; stand(0, 0); stand(1, 1); stand(2, 2); ! begin() = -3
            stand(3, 3); begin() = 4
            new                                           # one who goes elsewhere leaves none behind
            ring(3); 3 * person(0, 1, 1); stand(0, 0); stand(1, 1); stand(1, 2); ! begin() = -3
            """);
        s.holds("Promise 8: end", "The DANCE ends (PEOPLE and RIBBONS stay where they are, as they are): its STEPS.", """
            dance of 4 with 100; pass(0, 0); walk(0); end() = 2; count(6) = 0
            at(*, 0) = 3 1 0 2; at(*, 1) = 3 1 0 2; at(*, 2) = 90 88 89 90
            new
            dance of 3 with 0; end() = 0; at(*, 0) = 0 1 2
            """);
        s.holds("Promise 8: end", "STATE: there is none.", """
            ! end() = -3
            ring of 3 with 50; ! end() = -3; begin(); walk(0); end() = 1; ! end() = -3; begin(); end() = 0
            """);
        s.holds("Promise 8: end", "(THE DANCE's STEPS and THE CLOTH, with the COLOURS that its RIBBONS had, stay till the "
            + "next one begins", """
            dance of 3 with 500; pass(0, 0); walk(0); end() = 2
            ribbon(0, 7, 0); ribbon(1, 7, 0); ribbon(2, 7, 0); person(0, 1, 1); stand(0, 3)
            count(2) = 2; step(*) = 0 100 -1; rows() = 1
            cloth(0, *, 0) = 2 1 0; cloth(0, *, 1) = 1 0 0; cloth(0, *, 2) = 1 1 0; beat() = 1; form(-1, 0) = 0
            picture(0, 0, 1); wrong() = 0
            ! ring(2) = -2; rows() = 1
            begin(); rows() = 0; count(2) = 0; walk(0) = -3; wrong() = 1
            """);
        s.holds("Promise 8: end", "ring() empties both.", """
            dance of 3 with 500; pass(0, 0); 3 * walk(0); end() = 4; girth() = 11
            ring(3) = 1; rows() = 0; count(2) = 0; step(0) = -1; cloth(0, 0, 0) = -1; girth() = 10; beat() = -3
            form(-1, -1) = 0; form(-1, -2) = 0
            """);
        s.holds("Promise 8: end", "RIBBONS are their own PLACES' then.)", """
            dance of 4 with 500; pass(0, 0); walk(0); at(*, 3) = 3 1 0 2; end(); at(*, 3) = 0 1 2 3
            ribbon(0, 6, 66); at(*, 1) = 6 1 0 2          # the RIBBON that is at 0 now is that of PLACE 0
            """);
    }

    private static void pass(Sentences s) {
        s.holds("Promise 9: pass", "A PASS (how 0 LOW, 1 HIGH): STEPS of THE DANCE.", """
            dance of 3 with 50; pass(0, 0) = 1; pass(2, 1) = 2; step(*) = 0 21 -1; walk(0) = 3; pass(1, 0) = 4
            """);
        s.holds("Promise 9: pass", "NONE: p", """
            ! pass(0, 0) = -1                             # no RING: no PLACE
            new
            dance of 4 with 50; ! pass(4, 0) = -1; ! pass(-1, 0) = -1; ! pass(MIN, 0) = -1; ! pass(MAX, 0) = -1
            ! pass(4, 2) = -1                             # named ahead of BAD
            pass(3, 0) = 1; end(); ! pass(4, 0) = -1      # and of STATE
            """);
        s.holds("Promise 9: pass", "BAD: how", """
            dance of 4 with 50; ! pass(0, 2) = -2; ! pass(0, -1) = -2; ! pass(0, MIN) = -2; ! pass(0, MAX) = -2
            pass(0, 1) = 1; end(); ! pass(0, 2) = -2      # named ahead of STATE
            """);
        s.holds("Promise 9: pass", "STATE: there is no DANCE, or a RIBBON is too short", """
            ring of 3 with 50; ! pass(0, 0) = -3; begin(); pass(0, 0) = 1; end(); ! pass(0, 0) = -3
            new
            ring of 3 with 2; ribbon(1, 0, 1); begin(); ! pass(0, 0) = -3; ! pass(1, 1) = -3; pass(1, 0) = 1
            new                                           # named ahead of FULL
            dance of 3 with 600; figure "(((0<0>)9)8)2"; dance(0) = 288; figure "(0<0>)6"; dance(1) = 12
            at(*, 2) = 300 0 600; ! pass(0, 0) = -3
            """);
        s.holds("Promise 9: pass", "FULL", """
            dance of 3 with 99999; figure "(((0<0>)9)8)2"; dance(0) = 288
            11 * pass(2, 1) = 289 ..; pass(1, 0) = 300; ! pass(1, 0) = -4; ! pass(2, 1) = -4
            end() = 300; begin(); pass(0, 0) = 1
            """);
    }

    private static void walk(Sentences s) {
        s.holds("Promise 10: walk", "A WALK (how 0 ON, 1 BACK): STEPS of THE DANCE.", """
            dance of 3 with 50; walk(0) = 1; pass(0, 0) = 2; walk(1) = 3; step(*) = 100 0 101 -1
            """);
        s.holds("Promise 10: walk", "BAD", """
            ! walk(2) = -2; ! walk(-1) = -2
            ring of 3 with 50; ! walk(2) = -2             # named ahead of STATE
            begin(); ! walk(2) = -2; ! walk(-1) = -2; ! walk(MIN) = -2; ! walk(MAX) = -2; walk(1) = 1
            """);
        s.holds("Promise 10: walk", "STATE: likewise", """
            ! walk(0) = -3
            ring of 3 with 50; ! walk(0) = -3; begin(); walk(0) = 1; end(); ! walk(1) = -3
            new
            ring of 3 with 20; ribbon(1, 0, 19); begin(); walk(0) = 1; ! walk(0) = -3; ! walk(1) = -3
            new                                           # named ahead of FULL of STEPS
            dance of 3 with 609; figure "(((0<0>)9)8)2"; dance(0) = 288; figure "(0<0>)6"; dance(1) = 12
            at(*, 2) = 309 9 609; ! walk(0) = -3
            new                                           # and of FULL of ROWS: 2617 is what 100 WALKS take
            dance of 3 with 2659; figure "(((w)9)9)-((w)9)2w"; dance(0) = 100; at(*, 2) = 42 42 42; ! walk(0) = -3
            """);
        s.holds("Promise 10: walk", "FULL: of STEPS, or of ROWS.", """
            dance of 3 with 99999; figure "(((0<0>)9)8)2"; dance(0) = 288; 11 * pass(2, 1) = 289 ..
            walk(0) = 300; ! walk(0) = -4; ! walk(1) = -4; rows() = 1
            new
            dance of 3 with 99999; figure "(((w)9)9)-((w)9)2"; dance(0) = 99; rows() = 99
            walk(1) = 100; rows() = 100; ! walk(0) = -4; ! walk(1) = -4; pass(0, 0) = 101; ! walk(0) = -4
            new                                           # 43 is left: just enough, but for the room
            dance of 3 with 2660; figure "(((w)9)9)-((w)9)2w"; dance(0) = 100; at(*, 2) = 43 43 43; ! walk(0) = -4
            """);
    }

    private static void girthAndStep(Sentences s) {
        s.holds("Promise 11: girth", "GIRTH as it is now.", """
            girth() = 10; ring(3); girth() = 10
            new
            dance of 3 with 500; walk(0); girth() = 10; walk(0); girth() = 10; walk(0); girth() = 11
            pass(0, 0); girth() = 11; walk(0); walk(0); girth() = 11; walk(1); girth() = 12
            end(); girth() = 12; begin(); girth() = 10; 3 * walk(0); end(); girth() = 11; ring(3); girth() = 10
            new                                           # a WALK that is not done lays no ROW
            dance of 3 with 20; 2 * walk(0) = 1 ..; walk(0) = -3; girth() = 10
            new
            dance of 3 with 99999; figure "(((w)9)9)-((w)9)2"; dance(0) = 99; girth() = 43; walk(0) = 100; girth() = 43
            """);
        s.holds("Promise 12: step", "STEP i of THE DANCE: 10 p and 0 LOW, 1 HIGH; 100 WALK ON, 101 BACK.", """
            dance of 9 with 500; pass(8, 1); pass(0, 0); pass(0, 1); pass(8, 0); walk(0); walk(1)
            step(*) = 81 0 1 80 100 101 -1
            """);
        s.holds("Promise 12: step", "NONE.", """
            step(0) = -1; step(-1) = -1
            dance of 3 with 500; step(0) = -1; pass(0, 0); step(0) = 0; step(1) = -1; step(-1) = -1
            step(MIN) = -1; step(MAX) = -1; end(); step(0) = 0; step(1) = -1; begin(); step(0) = -1
            """);
    }
}
