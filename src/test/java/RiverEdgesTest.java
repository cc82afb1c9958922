/** Chapter 1 of the document and promises 1 to 7 and 25, sentence by sentence: the edges that they name. */
public final class RiverEdgesTest {
    private static final Check check = new Check();

    public static void main(String[] args) {
        newObject();
        time();
        days();
        sundays();
        stairs();
        bridge();
        ways();
        levels();
        rows();
        table();
        flows();
        frost();
        check.end();
    }

    private static Story of(String sentence) {
        return Story.of(check, sentence);
    }

    private static void newObject() {
        Story s = of("TIME 0, no stairs, no boats, no orders; all men nobody.");
        for (int i = 0; i < 10; i++) s.is("count(" + i + ") = 0");
        for (int i = 0; i < 5; i++) s.is("coins(" + i + ") = 0");
        for (int m = 0; m < 40; m++) s.is("man(" + m + ", 0) = 0; served(" + m + ") = -2; leave(" + m + ") = -2");
        s.is("boat(1, 0) = -1; craft(0, 0) = -1; sink(0, 1, 1) = -1; why(0, 0, 0) = -1; row(0, 0, 0, 0) = -1; join(0, 0) = -1");
        s.is("fare(0, 0, 1, 0, 1) = -1; inForce(0, 0) = -2; inForce(499, 499) = -2; trip(0, 0) = -2; due(0, 0) = -2; over(0, 0) = 0");
        s.is("pensioner(0, 0) = -1; foretold() = -2; bridge(0) = -1; end(0) = 0; end(1) = -1; order(0) = -100; flow(0, 0) = 0");
    }

    private static void time() {
        of("TIME is a count of minutes, 0 at first").is("count(4) = 0; minutes(1) = 1; count(4) = 1; minutes(719) = 720");
        of("a DAY has 720 of them").is("frost(0, 0) = 0; minutes(719) = 719; frost(0, 1) = 0; frost(0, 0) = 1; minutes(1) = 720; "
            + "frost(0, 1) = -1; frost(1, 1) = 0; minutes(719) = 1439; frost(1, 1) = 1; minutes(1) = 1440; frost(1, 1) = -1");
        of("12 HOURS of 60").is("stairs(0); stairs(1); boat(1, 0); free(0)").order("fare 1 to 1 is 100; hour 1 to 1 is 200; hour 11 to 11 is 300;")
            .time(720 + 59).is("row(0, 0, 1, 0) = 0; due(0, 499) = 100").time(720 + 119).is("row(0, 0, 0, 0) = 1; due(1, 499) = 200")
            .time(720 + 129).is("row(0, 0, 1, 0) = 2; due(2, 499) = 100").time(720 + 659).is("row(0, 0, 0, 0) = 3; due(3, 499) = 100")
            .time(720 + 719).is("row(0, 0, 1, 0) = 4; due(4, 499) = 300").time(1440 + 59).is("row(0, 0, 0, 0) = 5; due(5, 499) = 100")
            .time(1440 + 69).is("row(0, 0, 1, 0) = 6; due(6, 499) = 200");
        of("12 HOURS of 60").is("stairs(0); stairs(1); boat(1, 0); free(0)").order("fare 1 to 1 is 100; hour 1 to 1 is 200;")
            .time(720 + 60).is("row(0, 0, 1, 0) = 0; due(0, 1) = 200");
        of("TIME is at most 359999").time(358559).is("minutes(1440) = 359999; count(4) = 359999; minutes(1) = -1; minutes(1440) = -1");
        of("TIME is at most 359999").time(358560).is("minutes(1440) = -1; count(4) = 358560; minutes(1439) = 359999");
        of("n (1 .. 1440) minutes go by: TIME.").is("minutes(1) = 1; minutes(1440) = 1441; minutes(0) = -1; minutes(-1) = -1; minutes(1441) = -1")
            .far("minutes(#)", -1).is("minutes(1439) = 2880; count(4) = 2880");
        of("BAD (also beyond 359999).").time(359990).is("minutes(10) = -1; minutes(11) = -1; minutes(9) = 359999; minutes(1) = -1; minutes(0) = -1")
            .far("minutes(#)", -1);
    }

    private static void days() {
        Story s = of("TIME is at most 359999 (DAYS 0 ..").is("stairs(0); stairs(1); boat(1, 0); free(0)").order("fare 0 to 60 is 1;");
        s.is("row(0, 0, 1, 5) = 0");
        String[] bad = {"level(#, 0, 1) = -1", "flow(#, 0) = -1000", "frost(#, 1) = -1", "order(#) = -1", "inForce(#, 0) = -1",
            "inForce(0, #) = -1", "due(0, #) = -2", "over(0, #) = -1"};
        String[] good = {"level(#, 0, 0) = 1", "flow(#, 0) = 0", "frost(#, 0) = 0", "inForce(#, 0) = 0", "inForce(0, #) = 0",
            "due(0, #) = 1", "over(0, #) = 4"};
        for (String call : good) s.is(call.replace("#", "0")).is(call.replace("#", "499"));
        for (String call : bad) s.is(call.replace("#", "-1")).is(call.replace("#", "500"));
        s.order("least 1;", 0, 1).order("least 1;", 499, 2);
        for (String call : bad) {
            for (int far : Check.far()) s.is(call.replace("#", Integer.toString(far)));
        }
    }

    private static void sundays() {
        Story s = of("DAY d is a SUNDAY if d % 7 is 0.").is("stairs(0); stairs(1)").order("fare 0 to 60 is 100; sunday 300;");
        for (int d : new int[] {0, 7, 14, 70, 490, 497}) s.is("fare(0, 0, 1, " + d * 12 + ", 1) = 300; fare(0, 0, 1, " + (d * 12 + 11) + ", 1) = 300");
        for (int d : new int[] {1, 2, 3, 4, 5, 6, 8, 13, 15, 489, 496, 498, 499}) {
            s.is("fare(0, 0, 1, " + d * 12 + ", 1) = 100; fare(0, 0, 1, " + (d * 12 + 11) + ", 1) = 100");
        }
        s = of("DAY d is a SUNDAY if d % 7 is 0.").is("stairs(0); stairs(1); boat(1, 0); free(0)").order("fare 0 to 60 is 1;");
        s.time(6 * 720 + 719).is("row(0, 0, 1, 19) = 0; coins(1) = 0; man(0, 4) = 19").time(7 * 720 + 9).is("coins(1) = 0; row(0, 0, 0, 18) = 1; coins(1) = 18");
        s.time(7 * 720 + 719).is("row(0, 0, 1, 17) = 2; coins(1) = 35; man(0, 4) = 19").time(8 * 720).is("coins(1) = 0; man(0, 4) = 54");
        s.time(8 * 720 + 9).is("row(0, 0, 0, 3) = 3; coins(1) = 0; man(0, 4) = 57");
    }

    private static void stairs() {
        Story s = of("STAIRS 0 .. 11, as they were made");
        for (int i = 0; i < 12; i++) s.is("count(0) = " + i + "; stairs(" + i * 5 + ") = " + i);
        s.is("count(0) = 12; stairs(60) = -3; stairs(56) = -3; count(0) = 12");
        s.is("boat(1, 11) = 0; boat(1, 12) = -1; join(11, 0) = -2; join(12, 0) = -1; join(-1, 0) = -1; boat(1, -1) = -1");
        of("each more miles up the river than the one ahead").is("stairs(9) = 0; stairs(9) = -1; stairs(8) = -1; stairs(0) = -1; stairs(10) = 1; "
            + "stairs(10) = -1; stairs(9) = -1; stairs(11) = 2; count(0) = 3");
        of("(MILES 0 .. 60)").is("stairs(-1) = -1; stairs(61) = -1; count(0) = 0; stairs(0) = 0; stairs(60) = 1; stairs(61) = -1; count(0) = 2")
            .far("stairs(#)", -1);
        of("(MILES 0 .. 60)").is("stairs(60) = 0; stairs(60) = -1; stairs(61) = -1; stairs(59) = -1");
        of("New STAIRS, at so many MILES: their number.").is("stairs(2) = 0; stairs(5) = 1").order("fare 3 to 3 is 33;").is("fare(0, 0, 1, 0, 1) = 33");
        s = of("BAD (also if not more MILES than all ahead), FULL.");
        for (int i = 0; i < 12; i++) s.is("stairs(" + 2 * i + ") = " + i);
        s.is("stairs(23) = -3; stairs(22) = -1; stairs(21) = -1; stairs(0) = -1; stairs(-1) = -1; stairs(61) = -1; stairs(60) = -3; count(0) = 12");
        s.far("stairs(#)", -1);
    }

    private static Story fourStairs(String sentence) {
        return of(sentence).is("stairs(0); stairs(1); stairs(2); stairs(3); boat(1, 0); boat(1, 1); boat(1, 2); boat(1, 3); free(0)")
            .order("fare 0 to 60 is 1; bridge 12 to 12;");
    }

    private static void bridge() {
        fourStairs("or there is none (at first)").is("why(0, 0, 1) = 0; why(1, 0, 2) = 0; why(2, 0, 3) = 0; why(0, 0, 3) = 0; why(3, 0, 0) = 0");
        fourStairs("THE BRIDGE is above one of these (told), between it and the next one").is("bridge(1) = 1; why(1, 0, 2) = 6; why(0, 0, 1) = 0; "
            + "why(2, 0, 3) = 0; bridge(0) = 1; why(0, 0, 1) = 6; why(1, 0, 2) = 0; bridge(2) = 1; why(2, 0, 3) = 6; why(1, 0, 2) = 0");
        of("THE BRIDGE is above these STAIRS (which must not be the last ones)").is("bridge(0) = -1; stairs(0) = 0; bridge(0) = -1; stairs(1) = 1; bridge(1) = -1; "
            + "bridge(0) = 1; stairs(2) = 2; bridge(2) = -1; bridge(1) = 1; bridge(3) = -1; bridge(-2) = -1").far("bridge(#)", -1);
        Story s = of("THE BRIDGE is above these STAIRS (which must not be the last ones)");
        for (int i = 0; i < 12; i++) s.is("stairs(" + i + ")");
        s.is("bridge(10) = 1; bridge(11) = -1; bridge(12) = -1");
        fourStairs("-1: there is none: 1. BAD.").is("bridge(-1) = 1; bridge(1) = 1; why(1, 0, 2) = 6; bridge(-1) = 1; why(1, 0, 2) = 0; bridge(-1) = 1; bridge(3) = -1; why(1, 0, 2) = 0");
        of("-1: there is none: 1. BAD.").is("bridge(-1) = 1; stairs(0); bridge(-1) = 1");
        fourStairs("THE BRIDGE is above one of these (told), between it and the next one").is("bridge(2) = 1; bridge(3) = -1; stairs(4) = 4; boat(1, 4) = 4; why(2, 0, 4) = 6; "
            + "why(3, 0, 4) = 0; bridge(3) = 1; why(3, 0, 4) = 6; why(4, 0, 3) = 6");
    }

    private static void ways() {
        for (int above = 0; above < 3; above++) {
            Story s = fourStairs("A way passes it if it goes from stairs at or below it to such above it, or the other way.").is("bridge(" + above + ") = 1");
            for (int from = 0; from < 4; from++) {
                for (int to = 0; to < 4; to++) {
                    int due = from == to ? -1 : from <= above && to > above || to <= above && from > above ? 6 : 0;
                    s.is("why(" + from + ", 0, " + to + ") = " + due);
                }
            }
        }
    }

    private static void levels() {
        of("LEVEL of the water in an HOUR of a DAY: as told in that DAY's row (-90 .. 90 each)").is("level(5, 3, -91) = -1; level(5, 3, 91) = -1; flow(5, 3) = 0; level(5, 3, -90) = 1; flow(5, 3) = 90; "
            + "level(5, 3, 90) = 1; flow(5, 3) = -90; level(5, 3, 91) = -1; flow(5, 3) = -90").far("level(5, 3, #)", -1);
        of("LEVEL in an HOUR of a DAY is told").is("level(0, 0, 1) = 1; level(0, -1, 1) = -1; level(0, 12, 1) = -1; level(0, 11, 1) = 1; flow(0, 11) = -1; "
            + "flow(0, 0) = -1; flow(0, 10) = 1; level(-1, 0, 0) = -1; level(500, 0, 0) = -1; level(499, 11, 4) = 1; flow(499, 11) = -4")
            .far("level(#, 0, 0)", -1).far("level(0, #, 0)", -1);
        of("LEVEL in an HOUR of a DAY is told").day(9).is("level(8, 1, 7) = 1; flow(8, 1) = -7; level(9, 1, 8) = 1; flow(9, 0) = 8; level(10, 1, 9) = 1; flow(10, 0) = 9");
    }

    private static Story squares(String sentence) {
        Story s = of(sentence);
        for (int i = 0; i < 12; i++) s.is("table(" + i + ", " + i * i % 89 + ") = 0");
        return s;
    }

    private static int square(int day, int hour) {
        int place = (day + hour) % 12;
        return place * place % 89;
    }

    private static void rows() {
        String sentence = "(a DAY that had no row has one then: its other HOURS as THE TABLE has them now): 1. BAD.";
        Story s = squares(sentence).is("level(29, 4, -50) = 1");
        int[] row = new int[12];
        for (int h = 0; h < 12; h++) row[h] = h == 4 ? -50 : square(29, h);
        for (int h = 0; h < 11; h++) s.is("flow(29, " + h + ") = " + (row[h + 1] - row[h]));
        for (int i = 0; i < 12; i++) s.is("table(" + i + ", 1)");
        for (int h = 0; h < 11; h++) s.is("flow(29, " + h + ") = " + (row[h + 1] - row[h]));
        s.is("flow(29, 11) = " + (1 - row[11]) + "; flow(28, 11) = " + (row[0] - 1) + "; flow(30, 4) = 0; level(29, 5, 60) = 1");
        row[5] = 60;
        for (int h = 0; h < 11; h++) s.is("flow(29, " + h + ") = " + (row[h + 1] - row[h]));
        squares(sentence).is("level(3, 12, 0) = -1; level(3, 0, 91) = -1; table(4, -9) = 16; flow(3, 0) = -18");
        of("if the DAY has none, THE TABLE's at place (HOUR + DAY) % 12").is("table(0, 10) = 0; flow(0, 0) = -10; flow(0, 11) = 0; flow(1, 10) = 10; flow(1, 11) = -10; "
            + "flow(11, 0) = 10; flow(11, 1) = -10; flow(12, 0) = -10; flow(11, 11) = 10; flow(499, 5) = -10; flow(499, 4) = 10");
        of("(12 places; 0 at first)").each("table(#, 5)", 0, 0, 1, 2, 3, 4, 5, 6, 7, 8, 9, 10, 11).each("table(#, 0)", 5, 0, 1, 2, 3, 4, 5, 6, 7, 8, 9, 10, 11)
            .each("table(#, 5)", -1000, -1, 12, -12, 24);
    }

    private static void table() {
        of("THE TABLE's place becomes v: what it was.").is("table(3, 7) = 0; table(3, 7) = 7; table(3, -7) = 7; table(3, 0) = -7; table(3, 0) = 0; table(2, 0) = 0");
        of("-1000: BAD.").is("table(-1, 0) = -1000; table(12, 0) = -1000; table(0, 91) = -1000; table(0, -91) = -1000; table(0, 90) = 0; table(0, -90) = 90; "
            + "table(11, 90) = 0; table(12, 91) = -1000; table(0, 0) = -90; table(0, -1000) = -1000").far("table(#, 0)", -1000).far("table(0, #)", -1000);
    }

    private static void flows() {
        Story s = squares("FLOW in an HOUR: LEVEL of the next HOUR (of the next DAY, behind HOUR 11) less that of this one");
        for (int d : new int[] {0, 1, 2, 10, 11, 12, 13, 498}) {
            for (int h = 0; h < 12; h++) {
                int next = h < 11 ? square(d, h + 1) : square(d + 1, 0);
                s.is("flow(" + d + ", " + h + ") = " + (next - square(d, h)));
            }
        }
        s.is("level(51, 0, 77) = 1; level(50, 11, -3) = 1; flow(50, 11) = 80; flow(50, 10) = " + (-3 - square(50, 10)) + "; flow(51, 0) = " + (square(51, 1) - 77));
        squares("(DAY 500 has no row.)").is("flow(499, 11) = " + (square(500, 0) - square(499, 11)) + "; level(500, 0, 1) = -1; level(499, 11, 0) = 1; flow(499, 11) = " + square(500, 0));
        Story up = of("above 0 it goes up the river, below 0 down").is("stairs(0); stairs(10); table(1, 1); boat(1, 0); boat(1, 1); free(0); free(1); free(2); free(3)");
        up.order("fare 0 to 60 is 100; with 50; against 200;").is("flow(0, 0) = 1; fare(0, 0, 1, 0, 1) = 50; fare(0, 1, 0, 0, 1) = 200; row(0, 0, 1, 0) = 0; trip(0, 5) = 70; "
            + "row(1, 1, 0, 0) = 1; trip(1, 5) = 140; flow(0, 1) = -1; fare(0, 0, 1, 1, 1) = 200; fare(0, 1, 0, 1, 1) = 50; flow(0, 2) = 0; fare(0, 0, 1, 2, 1) = 100; "
            + "fare(0, 1, 0, 2, 1) = 100");
        up.is("boat(1, 0) = 2; boat(1, 1) = 3").time(60).is("row(2, 2, 1, 0) = 2; trip(2, 5) = 200; row(3, 3, 0, 0) = 3; trip(3, 5) = 130").time(200)
            .is("row(2, 0, 0, 0) = 4; trip(4, 5) = 300; row(0, 1, 0, 0) = 5; trip(5, 5) = 300");
        of("FLOW in an HOUR of a DAY. -1000: BAD.").is("flow(0, 0) = 0; flow(499, 11) = 0; flow(-1, 0) = -1000; flow(500, 0) = -1000; flow(0, -1) = -1000; flow(0, 12) = -1000; "
            + "level(7, 2, -90); level(7, 3, 90); level(7, 4, -90); flow(7, 2) = 180; flow(7, 3) = -180").far("flow(#, 0)", -1000).far("flow(0, #)", -1000);
    }

    private static Story rowers(String sentence) {
        return of(sentence).is("stairs(0); stairs(1); boat(1, 0); free(0)").order("fare 0 to 60 is 1;");
    }

    private static void frost() {
        rowers("FROST: DAYS told; on these nothing is rowed.").is("frost(2, 1) = 0").time(1439).is("why(0, 0, 1) = 0").time(1440)
            .is("why(0, 0, 1) = 1; row(0, 0, 1, 5) = -11; count(2) = 0").time(2159).is("why(0, 0, 1) = 1; row(0, 0, 1, 5) = -11").time(2160)
            .is("why(0, 0, 1) = 0; row(0, 0, 1, 5) = 0");
        rowers("FROST: DAYS told; on these nothing is rowed.").is("frost(499, 1) = 0").time(499 * 720 - 1).is("why(0, 0, 1) = 0").time(499 * 720).is("why(0, 0, 1) = 1")
            .time(359999).is("why(0, 0, 1) = 1; frost(499, 0) = 1; why(0, 0, 1) = 7");
        rowers("A DAY (TODAY or later) is FROST (1) or not (0): what it was. BAD.").is("frost(0, 1) = 0; frost(0, 1) = 1; why(0, 0, 1) = 1; frost(0, 0) = 1; frost(0, 0) = 0; "
            + "why(0, 0, 1) = 0; frost(0, 2) = -1; frost(0, -1) = -1; frost(-1, 1) = -1; frost(500, 1) = -1; frost(499, 1) = 0; frost(499, 0) = 1")
            .far("frost(#, 1)", -1).far("frost(0, #)", -1).day(4)
            .is("frost(3, 1) = -1; frost(3, 0) = -1; frost(0, 0) = -1; frost(4, 1) = 0; frost(5, 1) = 0; why(0, 0, 1) = 1; frost(4, 0) = 1; frost(4, 3) = -1");
        of("A DAY (TODAY or later) is FROST (1) or not (0): what it was. BAD.").day(499).is("frost(498, 1) = -1; frost(499, 1) = 0; frost(500, 1) = -1; frost(499, 1) = 1");
        rowers("FROST: DAYS told; on these nothing is rowed.").time(715).is("frost(1, 1) = 0; row(0, 0, 1, 4) = 0; trip(0, 5) = 725").time(725)
            .is("craft(0, 4) = 0; why(0, 0, 0) = 1");
    }
}
