/** Chapter 2 of the document and promises 8 to 17, sentence by sentence: the edges that they name. */
public final class MenEdgesTest {
    private static final Check check = new Check();

    public static void main(String[] args) {
        men();
        boats();
        free();
        bind();
        gaps();
        gapsBesideOthers();
        gapsOfMenNotBound();
        manyGaps();
        served();
        passing();
        man();
        crafts();
        join();
        leave();
        check.end();
    }

    private static Story of(String sentence) {
        return Story.of(check, sentence);
    }

    /** Men 0 and 1 are FREE, 2 is BOUND to 0, 3 is DEAD, 4 is FREE and on a way with boat 1, 5 is NOBODY; boat 0 sank, boat 2 is at stairs 0. */
    private static Story allSorts(String sentence) {
        return of(sentence).is("stairs(0); stairs(6); stairs(60); boat(1, 0); boat(2, 0); boat(1, 0); free(0); free(1); free(3); free(4); bind(2, 0)")
            .order("fare 0 to 60 is 10;").is("row(0, 3, 1, 100) = 0; sink(0, 5, 9999) = 0; row(1, 4, 2, 40) = 1");
    }

    private static void men() {
        Story s = of("MEN 0 .. 39, each: 0 NOBODY (at first), 1 BOUND, 2 FREE, 3 DEAD.");
        for (int m = 0; m < 40; m++) s.is("man(" + m + ", 0) = 0");
        s.is("man(40, 0) = -2; man(-1, 0) = -2; free(39) = 1; man(39, 0) = 2; bind(38, 39) = 1; man(38, 0) = 1; free(40) = -1; bind(37, 40) = -1; bind(40, 39) = -1");
        s.is("man(0, 0) = 0; free(0) = 1; man(0, 0) = 2; count(5) = 2; count(6) = 1; count(7) = 0");
        s = allSorts("MEN 0 .. 39, each: 0 NOBODY (at first), 1 BOUND, 2 FREE, 3 DEAD.");
        s.is("man(0, 0) = 2; man(2, 0) = 1; man(3, 0) = 3; man(4, 0) = 2; man(5, 0) = 0; man(39, 0) = 0; count(5) = 3; count(6) = 1; count(7) = 1");
        String[] calls = {"free(#) = -1", "bind(#, 0) = -1", "bind(5, #) = -1", "absent(#, 0, 0) = -1", "served(#) = -1", "pass(#) = -1", "man(#, 0) = -2",
            "join(0, #) = -1", "leave(#) = -1", "why(2, #, 1) = -1", "row(2, #, 1, 0) = -1", "over(#, 0) = -1"};
        for (String call : calls) {
            s.is(call.replace("#", "-1")).is(call.replace("#", "40"));
            for (int far : Check.far()) s.is(call.replace("#", Integer.toString(far)));
        }
        s.is("absent(39, 0, 0) = -2; served(39) = -2; pass(39) = -2; join(0, 39) = -2; leave(39) = -2; why(2, 39, 1) = 3; row(2, 39, 1, 0) = -13; over(39, 0) = 0; "
            + "bind(39, 0) = 1; free(39) = -2");
    }

    private static void boats() {
        Story s = of("BOATS 0 .. 19, as they were made: 1 or 2 OARS, at stairs.").is("stairs(0); stairs(9)");
        for (int i = 0; i < 20; i++) s.is("count(1) = " + i + "; boat(" + (1 + i % 2) + ", " + i / 10 + ") = " + i);
        for (int i = 0; i < 20; i++) s.is("craft(" + i + ", 1) = " + (1 + i % 2) + "; craft(" + i + ", 0) = " + i / 10);
        s.is("boat(1, 0) = -3; boat(2, 1) = -3; count(1) = 20; craft(19, 4) = 0; craft(20, 4) = -1; craft(-1, 4) = -1");
        s.is("boat(0, 0) = -1; boat(3, 0) = -1; boat(1, 2) = -1; boat(1, -1) = -1");
        of("A new BOAT at STAIRS: its number. BAD, FULL.").is("boat(1, 0) = -1; stairs(5) = 0; boat(1, 1) = -1; boat(0, 0) = -1; boat(3, 0) = -1; boat(-1, 0) = -1; boat(1, -1) = -1; "
            + "count(1) = 0; boat(1, 0) = 0; boat(2, 0) = 1; boat(3, 0) = -1; count(1) = 2").far("boat(#, 0)", -1).far("boat(1, #)", -1);
        Story t = of("A new BOAT at STAIRS: its number. BAD, FULL.").is("stairs(0); stairs(9); free(0)").order("fare 0 to 60 is 1;");
        t.is("boat(1, 0) = 0; row(0, 0, 1, 0) = 0; sink(0, 1, 1) = 0; boat(1, 0) = 1");
        for (int i = 2; i < 20; i++) t.is("boat(1, 0) = " + i);
        t.is("boat(1, 0) = -3; boat(1, 2) = -1; boat(3, 1) = -1; count(1) = 20");
    }

    private static void free() {
        allSorts("A man who is NOBODY is FREE: 1. BAD, NOT.").is("free(5) = 1; man(5, 0) = 2; free(5) = -2; free(0) = -2; free(2) = -2; free(3) = -2; free(4) = -2; man(2, 0) = 1; "
            + "man(3, 0) = 3; free(40) = -1; free(-1) = -1; free(39) = 1").far("free(#)", -1);
        of("(Who was FREE from the beginning is told so.)").is("free(7) = 1; man(7, 0) = 2; man(7, 1) = -1; served(7) = -2; pass(7) = -2; man(6, 0) = 0; man(8, 0) = 0");
    }

    private static void bind() {
        String sentence = "BAD; NOT: he is not NOBODY, or the master is not FREE.";
        allSorts(sentence).is("bind(6, 5) = -2; bind(6, 2) = -2; bind(6, 3) = -2; bind(6, 6) = -2; bind(0, 1) = -2; bind(2, 0) = -2; bind(3, 0) = -2; bind(4, 0) = -2; bind(0, 0) = -2; "
            + "man(6, 0) = 0; bind(6, 0) = 1; man(6, 1) = 0; bind(6, 1) = -2; man(6, 1) = 0");
        allSorts("One is BOUND on a DAY to a master that is FREE").is("bind(6, 4) = 1; man(6, 1) = 4; join(1, 1) = 1; bind(7, 1) = 1; man(7, 1) = 1; bind(8, 1) = 1; bind(9, 7) = -2; count(6) = 4");
        allSorts(sentence).is("bind(40, 5) = -1; bind(-1, 5) = -1; bind(0, 40) = -1; bind(0, -1) = -1; bind(5, -1) = -1; bind(5, 40) = -1; bind(40, 40) = -1; bind(2, 40) = -1")
            .far("bind(#, 0)", -1).far("bind(5, #)", -1).far("bind(0, #)", -1);
        of("A man who is NOBODY is BOUND to a master TODAY: 1.").is("free(0)").day(8).is("bind(1, 0) = 1; served(1) = 0; absent(1, 7, 8) = -1; absent(1, 8, 8) = 1").day(9).is("served(1) = 0")
            .day(10).is("served(1) = 1");
    }

    /** Man 1 was BOUND on DAY 10; it is DAY 30. */
    private static Story apprentice(String sentence) {
        return of(sentence).is("free(0)").day(10).is("bind(1, 0) = 1").day(30);
    }

    private static void gaps() {
        String sentence = "A GAP of a man that is BOUND, DAYS a to b (from that when he was BOUND, to TODAY): how many he has.";
        apprentice(sentence).is("absent(1, 9, 9) = -1; absent(1, 9, 10) = -1; absent(1, 10, 10) = 1; served(1) = 19; absent(1, 31, 31) = -1; absent(1, 30, 31) = -1; absent(1, 30, 30) = 2; "
            + "served(1) = 19; absent(1, 0, 30) = -1; absent(1, -1, 12) = -1; absent(1, 20, 19) = -1; absent(1, 20, 20) = 3; served(1) = 18")
            .far("absent(1, #, 15)", -1).far("absent(1, 15, #)", -1).far("absent(#, 15, 15)", -1);
        apprentice(sentence).is("absent(1, 10, 30) = 1; served(1) = 0; absent(1, 10, 30) = -2").day(31).is("served(1) = 0; absent(1, 31, 31) = -2").day(32).is("served(1) = 1; absent(1, 32, 32) = 2");
        apprentice("he may be ABSENT from a DAY to another one (inclusive").is("absent(1, 15, 18) = 1; served(1) = 16; absent(1, 12, 12) = 2; served(1) = 15; absent(1, 22, 23) = 3; served(1) = 13");
        of(sentence).is("free(0); bind(1, 0); absent(1, 0, 0) = 1; absent(1, 0, 1) = -1; absent(1, 1, 1) = -1; absent(1, -1, 0) = -1");
        of(sentence).is("free(0)").day(499).is("bind(1, 0) = 1; absent(1, 499, 499) = 1; absent(1, 499, 500) = -1; absent(1, 498, 499) = -1");
        apprentice(sentence).is("absent(1, 12, 12) = 1; absent(1, 16, 16) = 2; absent(1, 20, 20) = 3; absent(1, 24, 24) = 4");
    }

    private static void gapsBesideOthers() {
        String sentence = "or it meets another one, or is beside it (the next DAY)";
        Story s = apprentice(sentence).is("absent(1, 17, 19) = 1");
        int[][] meet = {{17, 19}, {18, 18}, {17, 17}, {19, 19}, {16, 20}, {16, 17}, {19, 20}, {12, 17}, {19, 25}, {10, 30}, {12, 16}, {16, 16}, {20, 20}, {20, 24}, {17, 18}, {18, 19}};
        for (int[] m : meet) s.is("absent(1, " + m[0] + ", " + m[1] + ") = -2");
        s.is("served(1) = 17; absent(1, 12, 15) = 2; absent(1, 21, 24) = 3; served(1) = 9; absent(1, 16, 16) = -2; absent(1, 20, 20) = -2; absent(1, 11, 11) = -2; absent(1, 10, 10) = 4; "
            + "absent(1, 25, 25) = -2; absent(1, 26, 26) = 5");
        apprentice("not one in another one, or beside").is("absent(1, 25, 27) = 1; absent(1, 15, 17) = 2; absent(1, 20, 22) = 3; absent(1, 18, 19) = -2; absent(1, 23, 24) = -2; absent(1, 19, 19) = -2; "
            + "absent(1, 18, 18) = -2; absent(1, 23, 23) = -2; absent(1, 24, 24) = -2; absent(1, 13, 13) = 4; absent(1, 29, 29) = 5; served(1) = 9");
    }

    private static void gapsOfMenNotBound() {
        String sentence = "BAD; NOT: he is not BOUND, or it meets another one, or is beside it (the next DAY); FULL.";
        Story s = allSorts(sentence).day(5);
        for (int m : new int[] {0, 1, 3, 4, 5, 39}) {
            s.is("absent(" + m + ", 0, 5) = -2; absent(" + m + ", 5, 5) = -2; absent(" + m + ", 0, 6) = -1; absent(" + m + ", -1, 5) = -1; absent(" + m + ", 4, 3) = -1");
        }
        of(sentence).is("free(0)").day(10).is("bind(1, 0) = 1").day(310).is("pass(1) = 1; absent(1, 10, 310) = -2; absent(1, 9, 310) = -1; absent(1, 10, 311) = -1");
        s.is("absent(40, 0, 0) = -1; absent(-1, 0, 0) = -1; absent(2, 0, 5) = 1; absent(2, 5, 6) = -1; absent(2, 3, 2) = -1; absent(2, 3, 3) = -2");
    }

    private static void manyGaps() {
        String sentence = "GAPS, at most 6 of each man";
        Story s = of(sentence).is("free(0); bind(1, 0); bind(2, 0)").day(40);
        for (int i = 0; i < 6; i++) s.is("absent(1, " + 3 * i + ", " + (3 * i + 1) + ") = " + (i + 1));
        s.is("served(1) = 28; absent(1, 30, 30) = -3; absent(1, 18, 40) = -3; served(1) = 28; absent(2, 30, 30) = 1; absent(2, 10, 12) = 2; served(2) = 36; absent(1, 30, 30) = -3");
        s.is("absent(1, 17, 17) = -2; absent(1, 16, 18) = -2; absent(1, 2, 2) = -2; absent(1, 30, 41) = -1; absent(1, 31, 30) = -1; absent(1, -1, 30) = -1; absent(1, 16, 41) = -1");
        s.day(41).is("served(1) = 29; absent(1, 41, 41) = -3");
    }

    private static void served() {
        String sentence = "SERVED: the DAYS from that when he was BOUND up to TODAY (this one not counted) that are in no GAP.";
        of(sentence).is("free(0); bind(1, 0); served(1) = 0; minutes(719); served(1) = 0; minutes(1); served(1) = 1; absent(1, 0, 1) = 1; served(1) = 0; minutes(720); served(1) = 0; minutes(720); served(1) = 1; "
            + "absent(1, 3, 3) = 2; served(1) = 1; minutes(719); served(1) = 1; minutes(1); served(1) = 1; minutes(720); served(1) = 2");
        of(sentence).is("free(0)").time(10 * 720 + 719).is("bind(1, 0) = 1; served(1) = 0; minutes(1); served(1) = 1; minutes(1440); served(1) = 3");
        of(sentence).is("free(0); bind(1, 0)").day(499).is("served(1) = 499").time(359999).is("served(1) = 499; absent(1, 0, 499) = 1; served(1) = 0");
        allSorts("SERVED of a man that is BOUND. BAD, NOT.").day(3).is("served(2) = 3; served(0) = -2; served(3) = -2; served(4) = -2; served(5) = -2; served(39) = -2; served(40) = -1; served(-1) = -1")
            .far("served(#)", -1);
    }

    private static void passing() {
        String sentence = "He becomes FREE if SERVED is 300 at least";
        of(sentence).is("free(0); bind(1, 0); bind(2, 0); absent(2, 0, 0) = 1").day(299).is("served(1) = 299; pass(1) = -101; man(1, 0) = 1; pass(2) = -102").time(300 * 720 - 1).is("pass(1) = -101").day(300)
            .is("served(1) = 300; pass(1) = 1; man(1, 0) = 2; man(1, 1) = -1; count(5) = 2; count(6) = 1; pass(1) = -2; served(1) = -2; served(2) = 299; pass(2) = -101; man(2, 0) = 1")
            .day(301).is("pass(2) = 1; count(5) = 3; count(6) = 0");
        of(sentence).is("free(0); bind(1, 0)").day(450).is("served(1) = 450; pass(1) = 1; man(1, 0) = 2");
        of("He becomes FREE by what he SERVED: 1; DAYS that lack: -100 less these.").is("free(0); bind(1, 0); pass(1) = -400").day(1).is("pass(1) = -399; absent(1, 0, 1) = 1; pass(1) = -400").day(100).is("pass(1) = -302; man(1, 0) = 1");
        allSorts("BAD, NOT: he is not BOUND.").is("pass(0) = -2; pass(3) = -2; pass(4) = -2; pass(5) = -2; pass(39) = -2; pass(40) = -1; pass(-1) = -1; pass(2) = -400").far("pass(#)", -1);
        Story s = of("then all masters he might have had are nothing to it").is("stairs(0); stairs(9); boat(1, 0); free(0); bind(1, 0)").order("fare 0 to 60 is 1;");
        s.is("row(0, 0, 1, 5) = 0; sink(0, 1, 1) = 0; man(0, 0) = 3; man(1, 0) = 1; man(1, 1) = 0; absent(1, 0, 0) = 1").day(300).is("pass(1) = -101").day(301).is("pass(1) = 1; man(1, 0) = 2; man(1, 1) = -1");
        s.is("bind(2, 1) = 1; man(2, 1) = 1; join(0, 1) = 1; absent(1, 300, 300) = -2; free(1) = -2");
    }

    private static void man() {
        Story s = allSorts("Of a man: 0 what he is, 1 his master (-1: he is not BOUND), 2 the STAIRS at whose TURNS he is (-1), 3 his place there (-1), 4 all that is his (coins), 5 whether on a way, 6 how many TRIPS.");
        int[][] due = {{2, -1, -1, -1, 0, 0, 0}, {2, -1, -1, -1, 0, 0, 0}, {1, 0, -1, -1, 0, 0, 0}, {3, -1, -1, -1, 0, 0, 1}, {2, -1, -1, -1, 0, 1, 1}, {0, -1, -1, -1, 0, 0, 0}};
        for (int m = 0; m < due.length; m++) {
            for (int what = 0; what < 7; what++) s.is("man(" + m + ", " + what + ") = " + due[m][what]);
        }
        s.is("join(2, 1) = 1; join(2, 0) = 2; man(1, 2) = 2; man(1, 3) = 0; man(0, 2) = 2; man(0, 3) = 1; leave(1) = 1; man(1, 2) = -1; man(1, 3) = -1; man(0, 3) = 0");
        s.time(359).is("man(4, 5) = 1").time(399).is("man(4, 5) = 1").time(400).is("man(4, 5) = 0; man(4, 6) = 1").day(1)
            .is("man(3, 4) = 66; man(4, 4) = 66; leave(0) = 1; row(1, 4, 0, 20) = 2; man(4, 4) = 85; man(4, 6) = 2; man(4, 5) = 1; coins(2) = 151");
        allSorts("-2 is BAD here.").is("man(0, -1) = -2; man(0, 7) = -2; man(-1, 0) = -2; man(40, 0) = -2; man(40, 7) = -2; man(39, 6) = 0; man(39, 7) = -2").far("man(#, 0)", -2).far("man(0, #)", -2);
    }

    private static void crafts() {
        Story s = allSorts("Of a BOAT: 0 the STAIRS (on a way: to which it goes), 1 OARS, 2 the TIME from which it is there (0 at first), 3 its man on a way (-1), 4 state (0 there, 1 on a way, 2 sunk). BAD.");
        s.is("craft(2, 0) = 0; craft(2, 1) = 1; craft(2, 2) = 0; craft(2, 3) = -1; craft(2, 4) = 0");
        s.is("craft(1, 0) = 2; craft(1, 1) = 2; craft(1, 2) = 400; craft(1, 3) = 4; craft(1, 4) = 1; craft(0, 1) = 1; craft(0, 3) = -1; craft(0, 4) = 2");
        s.time(399).is("craft(1, 3) = 4; craft(1, 4) = 1; craft(0, 4) = 2").time(400).is("craft(1, 0) = 2; craft(1, 2) = 400; craft(1, 3) = -1; craft(1, 4) = 0; craft(0, 4) = 2; boat(2, 1) = 3; craft(3, 2) = 0");
        s.is("craft(0, -1) = -1; craft(0, 5) = -1; craft(4, 0) = -1; craft(-1, 0) = -1").far("craft(#, 0)", -1).far("craft(1, #)", -1);
    }

    private static void join() {
        String sentence = "BAD; NOT: he is not FREE, on a way, or in a row of TURNS.";
        allSorts(sentence).is("join(1, 5) = -2; join(1, 2) = -2; join(1, 3) = -2; join(1, 4) = -2; join(1, 0) = 1; join(1, 0) = -2; join(2, 0) = -2; join(1, 1) = 2; man(0, 3) = 0; man(1, 3) = 1")
            .is("join(3, 1) = -1; join(-1, 1) = -1; join(1, 40) = -1; join(1, -1) = -1; join(3, 5) = -1; join(-1, 4) = -1; join(3, 0) = -1; join(3, 40) = -1")
            .far("join(#, 0)", -1).far("join(1, #)", -1)
            .time(399).is("join(1, 4) = -2").time(400).is("join(1, 4) = 3; man(4, 3) = 2");
        Story s = of("they come at its end").is("stairs(0); stairs(1)");
        for (int m = 0; m < 40; m++) s.is("free(" + m + ") = 1; join(" + m % 2 + ", " + m + ") = " + (m / 2 + 1) + "; man(" + m + ", 3) = " + m / 2);
        s.is("man(39, 2) = 1; leave(0) = 1; man(2, 3) = 0; man(38, 3) = 18; man(39, 3) = 19; join(0, 0) = 20; man(0, 3) = 19; leave(38) = 1; man(0, 3) = 18; man(36, 3) = 17; join(1, 38) = 21; man(38, 3) = 20");
        Story one = of("TURNS: at each of the STAIRS a row of MEN that are FREE, each in one such row at most").is("stairs(0); stairs(1); free(0); free(1); bind(2, 0)");
        one.is("join(0, 0) = 1; join(1, 0) = -2; join(0, 0) = -2; join(1, 1) = 1; join(0, 2) = -2; join(0, 3) = -2; leave(0) = 1; join(1, 0) = 2; man(0, 2) = 1");
        of("A man comes to the end of the TURNS at STAIRS: how many there are.").is("join(0, 0) = -1; free(0); join(0, 0) = -1; stairs(4); join(0, 0) = 1; free(1); join(0, 1) = 2; leave(0); leave(1); join(0, 1) = 1");
    }

    private static void leave() {
        allSorts("He leaves his row of TURNS: 1. BAD, NOT.").is("leave(0) = -2; leave(2) = -2; leave(3) = -2; leave(4) = -2; leave(5) = -2; leave(40) = -1; leave(-1) = -1; join(1, 0) = 1; join(1, 1) = 2; leave(0) = 1; "
            + "leave(0) = -2; man(1, 3) = 0; leave(1) = 1; leave(1) = -2").far("leave(#)", -1);
        allSorts("He leaves his row of TURNS: 1. BAD, NOT.").is("join(1, 0) = 1; row(2, 0, 1, 5) = 2; leave(0) = -2");
    }
}
