/** Chapter 4 of the document and promises 23, 24 and 26 to 29, sentence by sentence: the edges that they name. */
public final class RowingEdgesTest {
    private static final Check check = new Check();
    private static final String FIRST_OF = "WHY it may not be, the first of:";

    public static void main(String[] args) {
        rowCalls();
        allReasons();
        frost();
        boatOnAWay();
        notFree();
        turns();
        noFare();
        bridgeLine();
        headLine();
        endOfTime();
        minutesOfWays();
        onAWay();
        sixHundred();
        twentieths();
        pots();
        lateAndEarlyTrips();
        due();
        over();
        sinking();
        trips();
        check.end();
    }

    private static Story of(String sentence) {
        return Story.of(check, sentence);
    }

    /** Stairs at miles 0, 6, 60; boats 0 and 1 at stairs 0, with one and two oars; men 0, 1, 2 are FREE. */
    private static Story small(String sentence, String text) {
        return of(sentence).is("stairs(0); stairs(6); stairs(60); boat(1, 0); boat(2, 0); free(0); free(1); free(2)").order(text);
    }

    private static void rowCalls() {
        String any = "fare 0 to 60 is 10;";
        small("TO ROW a BOAT by a man to other STAIRS, now, for what is PAID (0 .. 1000000).", any).is("row(0, 0, 1, -1) = -1; row(0, 0, 1, 1000001) = -1; coins(3) = 0; row(0, 0, 1, 0) = 0; coins(3) = 0; row(1, 1, 1, 1000000) = 1; "
            + "coins(3) = 1000000; trip(0, 6) = 0; trip(1, 6) = 1000000").far("row(0, 2, 0, #)", -1);
        small("TO ROW a BOAT by a man to other STAIRS", any).is("why(0, 0, 0) = -1; row(0, 0, 0, 5) = -1; why(0, 0, 1) = 0; why(0, 0, 2) = 0; row(0, 0, 1, 5) = 0").time(60).is("why(0, 0, 1) = -1; row(0, 0, 1, 5) = -1; why(0, 0, 0) = 0; why(0, 0, 2) = 0");
        String why = "WHY of a man rowing a BOAT to other STAIRS now; 0: it may be. BAD.";
        small(why, any).is("why(-1, 0, 1) = -1; why(2, 0, 1) = -1; why(0, -1, 1) = -1; why(0, 40, 1) = -1; why(0, 0, -1) = -1; why(0, 0, 3) = -1; why(0, 0, 2) = 0; why(1, 1, 1) = 0; count(2) = 0")
            .far("why(#, 0, 1)", -1).far("why(0, #, 1)", -1).far("why(0, 0, #)", -1);
        String row = "TO ROW: the TRIP's number. BAD, WHY; FULL: there are 600.";
        small(row, any).is("row(-1, 0, 1, 5) = -1; row(2, 0, 1, 5) = -1; row(0, -1, 1, 5) = -1; row(0, 40, 1, 5) = -1; row(0, 0, -1, 5) = -1; row(0, 0, 3, 5) = -1; row(0, 0, 2, 5) = 0; row(1, 1, 1, 5) = 1; count(2) = 2")
            .far("row(#, 2, 1, 5)", -1).far("row(0, #, 1, 5)", -1).far("row(0, 2, #, 5)", -1);
        small(row, any).is("frost(0, 1) = 0; row(0, 0, 1, 5) = -11; row(2, 0, 1, 5) = -1; row(0, 40, 1, 5) = -1; row(0, 0, 0, 5) = -1; row(0, 0, 3, 5) = -1; row(0, 0, 1, 1000001) = -1; row(0, 0, 1, -1) = -1; row(0, 5, 1, 5) = -11; "
            + "why(0, 0, 1) = 1; why(2, 0, 1) = -1; why(0, 40, 1) = -1; why(0, 0, 0) = -1; why(0, 0, 3) = -1");
    }

    /** Every set of the seven reasons at once: the first of them is told, and BAD ahead of all. */
    private static void allReasons() {
        for (int set = 0; set < 128; set++) {
            boolean frost = (set & 1) != 0, onWay = (set & 2) != 0, nobody = (set & 4) != 0, turn = (set & 8) != 0;
            boolean noFare = (set & 16) != 0, shut = (set & 32) != 0, late = (set & 64) != 0;
            int now = 359999 - (late ? 59 : 60);
            Story s = of(FIRST_OF).is("stairs(0); stairs(6); stairs(12); bridge(0); free(1); free(2); boat(1, " + (onWay ? 1 : 0) + ") = 0").order("fare 0 to 60 is 1;");
            s.time(now - 30);
            if (onWay) s.is("row(0, 1, 0, 0) = 0");
            s.order((noFare ? "fare 7 to 60 is 1;" : "fare 6 to 6 is 1;") + (shut ? "bridge 0 to 9;" : "bridge 10 to 11;"));
            if (!nobody) s.is("free(0) = 1");
            if (turn) s.is("join(0, 2) = 1");
            s.time(now);
            if (frost) s.is("frost(499, 1) = 0");
            int due = set == 0 ? 0 : 1 + Integer.numberOfTrailingZeros(set);
            s.is("why(0, 0, 1) = " + due + "; row(0, 0, 1, 1000001) = -1; row(0, 0, 0, 7) = -1; row(0, 0, 3, 7) = -1; row(1, 0, 1, 7) = -1; row(0, 40, 1, 7) = -1; why(0, 0, 0) = -1; why(1, 0, 1) = -1; row(0, 0, 1, 7) = "
                + (due == 0 ? onWay ? 1 : 0 : -10 - due));
        }
    }

    private static void frost() {
        small("1 it is FROST today", "fare 0 to 60 is 10;").is("frost(1, 1) = 0; why(0, 0, 1) = 0").time(719).is("why(0, 0, 1) = 0").time(720).is("why(0, 0, 1) = 1; why(0, 5, 1) = 1; row(0, 0, 1, 5) = -11; row(0, 5, 1, 5) = -11").time(1439)
            .is("why(0, 0, 1) = 1; frost(1, 0) = 1; why(0, 0, 1) = 0; frost(1, 1) = 0; row(0, 0, 1, 5) = -11").time(1440).is("why(0, 0, 1) = 0; row(0, 0, 1, 5) = 0");
    }

    private static void boatOnAWay() {
        String sentence = "2 the BOAT is on a way (one that SANK is none any more: BAD)";
        small(sentence, "fare 0 to 60 is 10;").is("row(0, 0, 1, 5) = 0; why(0, 1, 0) = 2; why(0, 0, 0) = 2; why(0, 1, 2) = 2; row(0, 1, 2, 5) = -12; row(0, 5, 0, 5) = -12").time(59).is("why(0, 1, 0) = 2; row(0, 1, 0, 5) = -12").time(60)
            .is("why(0, 1, 0) = 0; why(0, 1, 2) = 0; row(0, 1, 2, 5) = 1; why(0, 2, 1) = 2");
        small(sentence, "fare 0 to 60 is 10;").is("row(0, 0, 1, 5) = 0; sink(0, 1, 1) = 0; why(0, 1, 0) = -1; why(0, 1, 1) = -1; why(0, 1, 2) = -1; row(0, 1, 2, 5) = -1; frost(0, 1) = 0; why(0, 1, 2) = -1; row(0, 1, 2, 5) = -1; why(0, 0, 0) = -1")
            .time(60).is("why(0, 1, 0) = -1; row(0, 1, 0, 5) = -1").day(1).is("why(0, 1, 0) = -1; row(0, 1, 0, 5) = -1; why(1, 1, 1) = 0");
    }

    private static void notFree() {
        String sentence = "3 he is not FREE, or on a way";
        small(sentence, "fare 0 to 60 is 10;").is("boat(1, 0) = 2; bind(5, 0) = 1; why(2, 4, 1) = 3; row(2, 4, 1, 5) = -13; why(2, 5, 1) = 3; row(2, 5, 1, 5) = -13; row(0, 0, 1, 5) = 0; why(2, 0, 1) = 3; row(2, 0, 1, 5) = -13; "
            + "row(1, 1, 1, 5) = 1; sink(1, 1, 1) = 0; why(2, 1, 1) = 3; row(2, 1, 1, 5) = -13; why(2, 2, 1) = 0").time(59).is("why(2, 0, 1) = 3; row(2, 0, 1, 5) = -13").time(60).is("why(2, 0, 1) = 0; why(2, 1, 1) = 3; row(2, 0, 1, 5) = 2");
        of(sentence).is("stairs(0); stairs(1); boat(1, 0); free(0); bind(1, 0)").order("fare 0 to 60 is 1;").day(300).is("why(0, 1, 1) = 3; pass(1) = 1; why(0, 1, 1) = 0; row(0, 1, 1, 5) = 0");
    }

    private static void turns() {
        String sentence = "4 there is a row of TURNS at the BOAT's STAIRS, not empty, and he is not the first in it";
        small(sentence, "fare 0 to 60 is 10;").is("join(1, 0) = 1; join(1, 1) = 2; why(0, 0, 1) = 0; why(0, 1, 1) = 0; why(0, 2, 1) = 0; join(0, 2) = 1; why(0, 2, 1) = 0; why(0, 0, 1) = 4; why(0, 1, 1) = 4; row(0, 0, 1, 5) = -14; "
            + "leave(0) = 1; why(0, 0, 1) = 4; join(0, 0) = 2; why(0, 0, 1) = 4; row(0, 0, 1, 5) = -14; leave(2) = 1; why(0, 0, 1) = 0; why(0, 2, 1) = 4; join(0, 2) = 2; why(0, 2, 1) = 4; leave(0) = 1; why(0, 2, 1) = 0; leave(2) = 1; why(0, 0, 1) = 0");
        small("He leaves his row of TURNS when he begins.", "fare 0 to 60 is 10;").is("join(0, 0) = 1; join(0, 1) = 2; row(0, 0, 1, 5) = 0; man(0, 2) = -1; man(0, 3) = -1; leave(0) = -2; man(1, 3) = 0; row(1, 1, 1, 5) = 1; man(1, 2) = -1; "
            + "boat(1, 0) = 2; why(2, 2, 1) = 0");
        small("He leaves his row of TURNS when he begins.", "fare 0 to 60 is 10;").is("join(2, 0) = 1; row(0, 0, 1, 5) = 0; man(0, 2) = -1; join(2, 1) = 1; man(1, 3) = 0").time(60).is("join(2, 0) = 2");
    }

    private static void noFare() {
        String sentence = "5 no ORDER is in force, or it has no FARE";
        Story s = of(sentence).is("stairs(0); stairs(6); stairs(60); boat(1, 0); free(0); why(0, 0, 1) = 5; row(0, 0, 1, 5) = -15").order("fare 6 to 6 is 0;", 2, 0).is("why(0, 0, 1) = 5; row(0, 0, 1, 5) = -15");
        s.time(1439).is("why(0, 0, 1) = 5").time(1440).is("why(0, 0, 1) = 0; why(0, 0, 2) = 5; row(0, 0, 2, 5) = -15").order("fare 7 to 60 is 1;", 3, 1).is("why(0, 0, 1) = 0; why(0, 0, 2) = 5").day(3).is("why(0, 0, 1) = 5; why(0, 0, 2) = 0");
        s.order("fare 0 to 5 is 1; fare 61 to 99 is 1;", 0, 2).is("why(0, 0, 1) = 5; why(0, 0, 2) = 5; row(0, 0, 1, 5) = -15").order("least 5;", 3, 3).is("why(0, 0, 1) = 5").order("fare 6 to 60 is 1;", 0, 4).is("why(0, 0, 1) = 0; why(0, 0, 2) = 0");
    }

    private static void bridgeLine() {
        String sentence = "6 THE BRIDGE is passed, and the HOUR is not a .. b of the bridge LINE (if there is one)";
        Story s = small(sentence, "fare 0 to 60 is 1; bridge 4 to 6;").is("why(0, 0, 1) = 0; bridge(0) = 1; why(0, 0, 1) = 6; row(0, 0, 1, 5) = -16; why(0, 0, 2) = 6; bridge(1) = 1; why(0, 0, 1) = 0; why(0, 0, 2) = 6; bridge(0) = 1");
        s.time(239).is("why(0, 0, 1) = 6").time(240).is("why(0, 0, 1) = 0").time(419).is("why(0, 0, 1) = 0").time(420).is("why(0, 0, 1) = 6; row(0, 0, 1, 5) = -16").time(720 + 239).is("why(0, 0, 1) = 6").time(720 + 240).is("why(0, 0, 1) = 0");
        small(sentence, "fare 0 to 60 is 1;").is("bridge(0) = 1; table(1, 90) = 0; why(0, 0, 1) = 0; row(0, 0, 1, 5) = 0");
        small(sentence, "fare 0 to 60 is 1; bridge 0 to 0;").is("bridge(0) = 1; why(0, 0, 1) = 0").time(59).is("why(0, 0, 1) = 0").time(60).is("why(0, 0, 1) = 6");
        small(sentence, "fare 0 to 60 is 1; bridge 11 to 99999;").is("bridge(0) = 1; why(0, 0, 1) = 6").time(659).is("why(0, 0, 1) = 6").time(660).is("why(0, 0, 1) = 0").time(719).is("why(0, 0, 1) = 0").time(720).is("why(0, 0, 1) = 6");
        small(sentence, "fare 0 to 60 is 1; bridge 11 to 0;").is("bridge(0) = 1; why(0, 0, 1) = 6").time(660).is("why(0, 0, 1) = 6");
        small(sentence, "fare 0 to 60 is 1; bridge 4 to 6;").order("fare 0 to 60 is 1;").is("bridge(0) = 1; why(0, 0, 1) = 0");
    }

    private static void headLine() {
        String sentence = "or FLOW (without its sign) is above n of the head LINE (if there is one)";
        Story s = small(sentence, "fare 0 to 60 is 1; head 20;").is("bridge(0) = 1; boat(1, 1) = 2");
        int[] levels = {0, 20, 0, 21, 0, 19};
        for (int i = 0; i < 6; i++) s.is("table(" + i + ", " + levels[i] + ")");
        int[] due = {0, 0, 6, 6, 0};
        for (int h = 0; h < 5; h++) s.time(60 * h).is("why(0, 0, 1) = " + due[h] + "; why(2, 0, 0) = " + due[h] + "; why(2, 0, 2) = 0");
        small(sentence, "fare 0 to 60 is 1; head 0;").is("bridge(0) = 1; why(0, 0, 1) = 0; table(1, 1) = 0; why(0, 0, 1) = 6; table(1, -1) = 1; why(0, 0, 1) = 6; bridge(-1) = 1; why(0, 0, 1) = 0");
        small(sentence, "fare 0 to 60 is 1; head 180;").is("bridge(0) = 1; table(0, -90); table(1, 90); why(0, 0, 1) = 0").order("fare 0 to 60 is 1; head 179;").is("why(0, 0, 1) = 6; row(0, 0, 1, 5) = -16");
        small(sentence, "fare 0 to 60 is 1; head 5; bridge 0 to 0;").is("bridge(0) = 1; why(0, 0, 1) = 0; table(1, 6); why(0, 0, 1) = 6; table(1, 5); why(0, 0, 1) = 0; table(1, 0)").time(60).is("why(0, 0, 1) = 6");
    }

    private static void endOfTime() {
        String sentence = "7 he would be there behind the end of TIME.";
        small(sentence, "fare 0 to 60 is 1;").time(359999 - 600).is("why(0, 0, 2) = 0; minutes(1); why(0, 0, 2) = 7; row(0, 0, 2, 5) = -17; why(1, 0, 2) = 0").time(359999 - 60).is("why(0, 0, 1) = 0; row(0, 0, 1, 5) = 0; trip(0, 5) = 359999; man(0, 5) = 1; "
            + "minutes(59); craft(0, 4) = 1; minutes(1) = 359999; craft(0, 4) = 0; man(0, 5) = 0; why(0, 0, 0) = 7; row(0, 0, 0, 5) = -17");
        small(sentence, "fare 0 to 60 is 1;").time(359999 - 39).is("why(0, 0, 1) = 7; why(1, 0, 1) = 7; row(1, 0, 1, 5) = -17");
        small(sentence, "fare 0 to 60 is 1;").time(359999 - 40).is("why(0, 0, 1) = 7; why(1, 0, 1) = 0; row(1, 0, 1, 5) = 0; craft(1, 2) = 359999");
        small(sentence, "fare 0 to 60 is 1;").is("level(499, 11, -5) = 1").time(359999 - 42).is("why(0, 0, 1) = 0; minutes(1); why(0, 0, 1) = 7; level(499, 11, 5) = 1; why(1, 0, 1) = 7");
    }

    private static void minutesOfWays() {
        String sentence = "A way takes, a mile: 10 minutes, 7 if FLOW goes as it does, 14 if it goes the other way; all together with 2 OARS two thirds of that (the rest away); 1 at least.";
        int[] miles = {1, 2, 3, 4, 5, 59, 60};
        for (int far : miles) {
            for (int flow = -1; flow <= 1; flow++) {
                Story s = of(sentence).is("stairs(0); stairs(" + far + "); free(0); free(1); free(2); free(3); table(1, " + flow + "); boat(1, 0); boat(2, 0); boat(1, 1); boat(2, 1)").order("fare 0 to 60 is 1;");
                int up = far * (flow > 0 ? 7 : flow < 0 ? 14 : 10), down = far * (flow > 0 ? 14 : flow < 0 ? 7 : 10);
                s.is("row(0, 0, 1, 0) = 0; trip(0, 5) = " + up + "; row(1, 1, 1, 0) = 1; trip(1, 5) = " + up * 2 / 3 + "; row(2, 2, 0, 0) = 2; trip(2, 5) = " + down + "; row(3, 3, 0, 0) = 3; trip(3, 5) = " + down * 2 / 3);
                s.is("craft(1, 2) = " + up * 2 / 3 + "; craft(2, 2) = " + down);
            }
        }
        small(sentence, "fare 0 to 60 is 1;").is("table(1, 9)").time(59).is("row(0, 0, 1, 0) = 0; trip(0, 5) = 101; row(1, 1, 1, 0) = 1; trip(1, 5) = 87").time(60).is("boat(1, 0) = 2; row(2, 2, 1, 0) = 2; trip(2, 5) = 144; level(0, 1, 0); trip(0, 5) = 101");
    }

    private static void onAWay() {
        String sentence = "Up to then BOAT and man are on a way; then they are there (the BOAT at the other STAIRS).";
        small(sentence, "fare 0 to 60 is 1;").time(5).is("row(0, 0, 1, 0) = 0; craft(0, 4) = 1; man(0, 5) = 1; craft(0, 3) = 0").time(64).is("craft(0, 4) = 1; man(0, 5) = 1; craft(0, 3) = 0; join(1, 0) = -2; sink(1, 1, 1) = -2").time(65)
            .is("craft(0, 4) = 0; man(0, 5) = 0; craft(0, 3) = -1; craft(0, 0) = 1; sink(0, 1, 1) = -2; join(1, 0) = 1; row(0, 0, 2, 0) = 1; trip(1, 2) = 1; trip(1, 3) = 2");
        small(sentence, "fare 0 to 60 is 1;").time(719).is("row(0, 0, 1, 0) = 0; minutes(1440) = 2159; craft(0, 4) = 0; craft(0, 2) = 779; man(0, 5) = 0");
    }

    /** More calls than an object is promised for; the answers are held all the same. */
    private static void sixHundred() {
        Story s = of("A TRIP is kept (0 .. 599).").is("stairs(0); stairs(1); boat(2, 0); free(0)").order("fare 0 to 60 is 1;");
        for (int i = 0; i < 600; i++) s.is("row(0, 0, " + (1 - i % 2) + ", 1000000) = " + i + "; minutes(6)");
        s.is("count(2) = 600; trip(599, 0) = 0; trip(600, 0) = -2; row(0, 0, 1, 5) = -3; row(0, 0, 1, -1) = -1; row(0, 1, 1, 5) = -13; frost(5, 1) = 0; row(0, 0, 1, 5) = -11; coins(3) = 600000000; man(0, 6) = 600; over(0, 499) = 599999400; over(0, 0) = 599999400");
        s.is("row(0, 0, 0, 5) = -1; frost(5, 0) = 1; why(0, 0, 1) = 0; row(0, 0, 1, 0) = -3; coins(0) = 30000000");
    }

    private static void twentieths() {
        Story s = small("Of what is PAID a twentieth (the rest away) goes into THE BOX; the rest is the man's", "fare 0 to 60 is 1;").day(1);
        int[] paid = {0, 1, 19, 20, 21, 39, 40, 999999, 1000000};
        int box = 0, his = 0;
        for (int i = 0; i < paid.length; i++) {
            box += paid[i] / 20;
            his += paid[i] - paid[i] / 20;
            s.is("row(0, 0, " + (1 - i % 2) + ", " + paid[i] + ") = " + i + "; coins(0) = " + box + "; man(0, 4) = " + his + "; coins(1) = 0; coins(2) = " + his + "; coins(3) = " + (box + his) + "; minutes(60)");
        }
        small("but on a SUNDAY it goes into THE POT.", "fare 0 to 60 is 1;").is("row(0, 0, 1, 39) = 0; coins(0) = 1; coins(1) = 38; man(0, 4) = 0; coins(2) = 0; coins(3) = 39; row(1, 1, 1, 20) = 1; coins(0) = 2; coins(1) = 57; coins(3) = 59");
    }

    private static void pots() {
        String sentence = "When a SUNDAY ends THE POT is parted among all MEN who began a TRIP on it: each the same, what is left over into THE BOX (dead ones, too).";
        Story s = small(sentence, "fare 0 to 60 is 1;").is("boat(1, 0) = 2; boat(1, 0) = 3; free(3); row(0, 0, 1, 19) = 0; row(1, 1, 1, 0) = 1; row(2, 2, 1, 4) = 2; sink(2, 1, 1) = 0; coins(1) = 23");
        s.time(60).is("row(0, 0, 0, 0) = 3").time(719).is("coins(1) = 23; coins(2) = 0; coins(0) = 0").time(720).is("coins(1) = 0; man(0, 4) = 7; man(1, 4) = 7; man(2, 4) = 7; man(3, 4) = 0; coins(2) = 21; coins(0) = 2");
        s.day(7).is("coins(2) = 21").day(8).is("coins(2) = 21; coins(0) = 2");
        small(sentence, "fare 0 to 60 is 1;").is("row(0, 0, 1, 1) = 0; row(1, 1, 1, 0) = 1").time(719).is("minutes(1440) = 2159; coins(1) = 0; coins(0) = 1; coins(2) = 0");
        small(sentence, "fare 0 to 60 is 1;").is("row(0, 0, 1, 10) = 0; row(1, 1, 1, 0) = 1; minutes(1440) = 1440; coins(1) = 0; man(0, 4) = 5; man(1, 4) = 5; coins(0) = 0");
        small(sentence, "fare 0 to 60 is 1;").time(6 * 720 + 719).is("minutes(1) = 5040; row(0, 0, 1, 8) = 0; minutes(1440) = 6480; coins(1) = 0; man(0, 4) = 8; man(1, 4) = 0");
        small(sentence, "fare 0 to 60 is 1;").day(497).is("row(0, 0, 1, 11) = 0").time(498 * 720 - 1).is("coins(1) = 11").time(498 * 720).is("coins(1) = 0; man(0, 4) = 11");
        small(sentence, "fare 0 to 60 is 1;").is("row(0, 0, 1, 1000000) = 0; row(1, 1, 1, 1000000) = 1; free(3); boat(1, 0) = 2; row(2, 2, 1, 1000000) = 2; coins(1) = 2850000").day(1).is("man(2, 4) = 950000; coins(0) = 150000; coins(2) = 2850000");
    }

    private static void lateAndEarlyTrips() {
        String sentence = "among all MEN who began a TRIP on it";
        small(sentence, "fare 0 to 60 is 1;").time(7 * 720 - 1).is("row(0, 0, 1, 9) = 0; man(0, 4) = 9; minutes(1) = 5040; row(1, 1, 1, 8) = 1; coins(1) = 8").time(8 * 720 - 1).is("boat(1, 0) = 2; row(2, 2, 1, 7) = 2; coins(1) = 15; minutes(1)")
            .is("man(0, 4) = 9; man(1, 4) = 7; man(2, 4) = 7; coins(0) = 1; man(2, 5) = 1; row(0, 0, 0, 6) = 3; man(0, 4) = 15; coins(1) = 0");
        small(sentence, "fare 0 to 60 is 1;").is("row(0, 0, 1, 6) = 0").day(7).is("man(0, 4) = 6; row(1, 1, 1, 4) = 1").day(8).is("man(0, 4) = 6; man(1, 4) = 4").day(14).is("row(0, 0, 0, 2) = 2").day(15).is("man(0, 4) = 8; man(1, 4) = 4");
    }

    private static void due() {
        String sentence = "DUE of a TRIP AS KNOWN on a DAY: its FARE by the ORDER in force on its DAY, AS KNOWN then (-1: none).";
        Story s = small(sentence, "fare 0 to 60 is 100; sunday 200; oars 300; hour 1 to 1 is 500; with 700; against 0;").day(6).time(6 * 720 + 59).is("row(0, 0, 1, 0) = 0; due(0, 0) = 100; due(0, 499) = 100");
        s.time(7 * 720).is("row(1, 1, 1, 0) = 1; due(1, 0) = 600; due(1, 7) = 600").time(7 * 720 + 60).is("row(0, 0, 0, 0) = 2; due(2, 7) = 1000");
        s.day(9).order("fare 0 to 60 is 1;", 7, 1).order("fare 0 to 5 is 2;", 6, 2).is("due(0, 8) = 100; due(0, 9) = -1; due(1, 8) = 600; due(1, 9) = -1; due(2, 9) = -1");
        s.day(10).order("fare 0 to 60 is 3;", 7, 3).is("due(0, 10) = -1; due(1, 10) = 3; due(1, 9) = -1; due(1, 8) = 600; due(2, 499) = 3; due(0, 499) = -1").order("fare 0 to 60 is 4;", 8, 4).is("due(1, 10) = 3; due(2, 10) = 3");
        Story t = of(sentence).is("stairs(0); stairs(6); boat(1, 0); free(0)").day(3).order("fare 0 to 60 is 9;", 0, 0).is("row(0, 0, 1, 12) = 0; due(0, 2) = -1; due(0, 3) = 9; due(0, 0) = -1; over(0, 2) = 0; over(0, 3) = 3");
        t.is("sink(0, 1, 1) = 0; due(0, 3) = 9; over(0, 3) = 3");
        small("-1: none. -2 is BAD here.", "fare 0 to 60 is 1;").is("due(0, 0) = -2; row(0, 0, 1, 0) = 0; due(0, 0) = 1; due(1, 0) = -2; due(-1, 0) = -2; due(0, -1) = -2; due(0, 500) = -2; due(0, 499) = 1; due(1, 500) = -2").far("due(#, 0)", -2).far("due(0, #)", -2);
        small("DUE of a TRIP AS KNOWN on DAY k (0 .. 499)", "fare 0 to 60 is 5;").day(499).is("row(0, 0, 1, 0) = 0; due(0, 499) = 5; due(0, 0) = 5; due(0, 500) = -2; due(0, -1) = -2");
    }

    private static void over() {
        String sentence = "How much all TRIPS of a man were PAID above their DUE, AS KNOWN on DAY k (those with none, or less, count 0). BAD.";
        Story s = small(sentence, "fare 6 to 6 is 50; fare 54 to 54 is 500;").is("over(0, 0) = 0; row(0, 0, 1, 51) = 0; over(0, 0) = 1; row(1, 1, 1, 50) = 1; over(1, 0) = 0");
        s.time(60).is("row(0, 0, 0, 49) = 2; over(0, 0) = 1").time(120).is("row(0, 0, 1, 150) = 3; over(0, 0) = 101").time(180).is("row(0, 0, 2, 600) = 4; over(0, 0) = 201; row(1, 1, 0, 0) = 5; over(1, 0) = 0; over(2, 0) = 0; over(39, 0) = 0");
        s.day(1).order("fare 6 to 6 is 0;", 0, 1).is("over(0, 0) = 201; over(0, 1) = 250; over(1, 1) = 50; over(0, 499) = 250").order("with 1;", 0, 2).is("over(0, 1) = 0; over(1, 1) = 0; over(0, 0) = 201");
        s.is("over(-1, 0) = -1; over(40, 0) = -1; over(0, -1) = -1; over(0, 500) = -1; over(40, 500) = -1").far("over(#, 0)", -1).far("over(0, #)", -1);
    }

    private static void sinking() {
        String sentence = "A BOAT may SINK on a way: it is no more, its man DEAD; a WIDOW comes of it with a PENSION (told).";
        Story s = small(sentence, "fare 0 to 60 is 1;").day(1).is("row(0, 0, 1, 40) = 0; sink(0, 7, 300) = 0; craft(0, 4) = 2; craft(0, 3) = -1; man(0, 0) = 3; man(0, 5) = 0; man(0, 4) = 38; man(0, 6) = 1; pensioner(0, 0) = 7; pensioner(0, 1) = 300; pensioner(0, 2) = 0; "
            + "trip(0, 7) = 1; trip(0, 5) = 780; count(1) = 2; count(7) = 1; count(5) = 2; count(8) = 1; coins(0) = 2; coins(2) = 38; why(0, 1, 0) = -1");
        s.time(780).is("craft(0, 4) = 2; man(0, 0) = 3; man(0, 5) = 0; join(1, 0) = -2; free(0) = -2; why(1, 0, 1) = 3; row(1, 0, 1, 5) = -13; boat(1, 0) = 2");
        String calls = "A BOAT SINKS: the PENSIONER that comes of it. pension 1 .. 10000; end: a DAY 0 .. 9999. BAD; NOT: it is not on a way; FULL: there are 30.";
        small(calls, "fare 0 to 60 is 1;").is("sink(0, 1, 0) = -2; row(0, 0, 1, 0) = 0; sink(0, 0, 5) = -1; sink(0, -1, 5) = -1; sink(0, 10001, 5) = -1; sink(0, 5, -1) = -1; sink(0, 5, 10000) = -1; sink(2, 5, 5) = -1; sink(-1, 5, 5) = -1; craft(0, 4) = 1; count(8) = 0")
            .far("sink(#, 5, 5)", -1).far("sink(0, #, 5)", -1).far("sink(0, 5, #)", -1).time(59).is("sink(0, 1, 0) = 0; sink(0, 1, 0) = -2; sink(0, 0, 0) = -1; sink(0, 1, 10000) = -1; row(1, 1, 1, 0) = 1; sink(1, 10000, 9999) = 1; pensioner(1, 0) = 10000; pensioner(1, 1) = 9999");
        small(calls, "fare 0 to 60 is 1;").is("row(0, 0, 1, 0) = 0").time(60).is("sink(0, 5, 5) = -2; sink(0, 0, 5) = -1; sink(1, 5, 5) = -2; sink(1, 5, 10000) = -1; craft(0, 4) = 0; man(0, 0) = 2");
        Story full = small(calls, "fare 0 to 60 is 1;").is("row(0, 0, 1, 0) = 0; row(1, 1, 1, 0) = 1");
        for (int i = 0; i < 29; i++) full.is("pension(1, 0) = " + i);
        full.is("sink(0, 5, 5) = 29; count(8) = 30; sink(1, 5, 5) = -3; craft(1, 4) = 1; man(1, 0) = 2; trip(1, 7) = 0; sink(1, 0, 5) = -1; sink(1, 5, 10000) = -1; sink(0, 5, 5) = -2; sink(2, 5, 5) = -1; sink(0, 5, -1) = -1").time(60).is("sink(1, 5, 5) = -2");
    }

    private static void trips() {
        Story s = small("Of a TRIP: 0 BOAT, 1 man, 2 from, 3 to, 4 the TIME when it began, 5 when it is there, 6 PAID, 7 whether it SANK.", "fare 0 to 60 is 1;").is("trip(0, 0) = -2").time(17).is("row(1, 2, 2, 77) = 0; row(0, 1, 1, 5) = 1");
        int[] first = {1, 2, 0, 2, 17, 417, 77, 0};
        for (int i = 0; i < 8; i++) s.is("trip(0, " + i + ") = " + first[i]);
        s.time(77).is("row(0, 1, 0, 6) = 2; sink(0, 1, 1) = 0");
        int[] last = {0, 1, 1, 0, 77, 137, 6, 1};
        for (int i = 0; i < 8; i++) s.is("trip(2, " + i + ") = " + last[i]);
        s.is("trip(1, 7) = 0; trip(0, 7) = 0").time(417).is("row(1, 2, 1, 3) = 3; trip(3, 2) = 2; trip(3, 3) = 1; trip(0, 2) = 0; trip(0, 3) = 2");
        s.is("trip(4, 0) = -2; trip(-1, 0) = -2; trip(0, -1) = -2; trip(0, 8) = -2; trip(4, 8) = -2").far("trip(#, 0)", -2).far("trip(0, #)", -2);
        small("7 whether it SANK. -2 is BAD here.", "fare 0 to 60 is 1;").is("trip(0, 7) = -2; row(0, 0, 1, 0) = 0; trip(0, 7) = 0; trip(1, 7) = -2");
    }
}
