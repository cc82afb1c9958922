/** What is answered by BAD, NOT, FULL, WHY or to a question changes nothing: every call, in rivers that have much to lose. */
public final class RefusalsTest {
    private static final Check check = new Check();
    private static final String NOTHING = "What is answered so changes nothing.";

    public static void main(String[] args) {
        river(busy());
        men(busy());
        orders(busy());
        rowing(busy());
        box(busy());
        questions(busy());
        manyThings();
        lastTrip();
        check.end();
    }

    /**
     * It is SUNDAY, DAY 301: a bridge, told levels, frost to come, rows of TURNS, apprentices with gaps, one that has passed,
     * a boat on a way, one that sank, a pot, a box that pays for six times more, half an order on the tape.
     */
    private static Story busy() {
        Story s = Story.of(check, NOTHING).is("stairs(0); stairs(4); stairs(9); stairs(20); stairs(60); bridge(1); table(0, 5); table(3, -20); table(7, 44); level(310, 2, 33); frost(400, 1); frost(498, 1)");
        s.is("free(0); free(2); free(3); free(4); free(5); free(6); free(7); bind(8, 2); bind(9, 0); boat(1, 1); boat(2, 0); boat(1, 2); boat(1, 0); boat(2, 3)");
        s.order("fare 0 to 60 is 30; least 5; with 80; against 120;", 3, 0).day(2).is("bind(1, 0)").day(50).is("absent(1, 10, 12) = 1; absent(1, 20, 20) = 2; absent(8, 49, 50) = 1; pension(30, 9999) = 0; pension(12, 450) = 1");
        s.day(250).is("row(4, 7, 4, 1250) = 0; coins(0) = 62").day(300).is("pass(9) = 1").day(301).order("fare 0 to 60 is 20; sunday 150;", 301, 1);
        s.is("row(3, 6, 1, 55) = 1; sink(3, 9, 350) = 2; row(1, 5, 3, 77) = 2; join(0, 3) = 1; join(0, 0) = 2; join(2, 2) = 1; join(1, 4) = 1; minutes(130); pension(36, 9999) = 3; pension(3, 9999) = 4");
        return s.text("least 7; fare 0 to 60").is("count(9) = 21; coins(1) = 127");
    }

    private static void river(Story s) {
        s.still("stairs(-1) = -1; stairs(60) = -1; stairs(61) = -1; bridge(4) = -1; bridge(5) = -1; bridge(-2) = -1; level(-1, 0, 0) = -1; level(500, 0, 0) = -1; level(310, 12, 0) = -1; level(310, -1, 0) = -1; "
            + "level(310, 0, 91) = -1; level(310, 0, -91) = -1; table(-1, 0) = -1000; table(12, 0) = -1000; table(0, 91) = -1000; table(0, -91) = -1000; frost(300, 1) = -1; frost(500, 1) = -1; frost(301, 2) = -1; frost(301, -1) = -1; "
            + "minutes(0) = -1; minutes(-1) = -1; minutes(1441) = -1");
    }

    private static void men(Story s) {
        s.still("free(40) = -1; free(0) = -2; free(1) = -2; free(6) = -2; free(9) = -2; bind(40, 0) = -1; bind(10, 40) = -1; bind(0, 2) = -2; bind(1, 0) = -2; bind(10, 11) = -2; bind(10, 1) = -2; bind(10, 6) = -2; bind(10, 10) = -2");
        s.still("absent(40, 5, 5) = -1; absent(1, 1, 5) = -1; absent(1, 6, 5) = -1; absent(1, 300, 302) = -1; absent(1, 12, 14) = -2; absent(1, 21, 21) = -2; absent(0, 5, 5) = -2; absent(9, 5, 5) = -2; absent(10, 5, 5) = -2; absent(6, 5, 5) = -2");
        s.still("served(40) = -1; served(0) = -2; served(1) = 295; pass(40) = -1; pass(0) = -2; pass(9) = -2; pass(10) = -2; pass(1) = -105; pass(8) = -101; boat(0, 0) = -1; boat(3, 0) = -1; boat(1, 5) = -1; boat(1, -1) = -1");
        s.still("join(5, 7) = -1; join(0, 40) = -1; join(0, 1) = -2; join(0, 6) = -2; join(0, 5) = -2; join(1, 0) = -2; join(0, 0) = -2; join(0, 10) = -2; leave(40) = -1; leave(5) = -2; leave(7) = -2; leave(1) = -2; leave(10) = -2; leave(6) = -2");
    }

    private static void orders(Story s) {
        s.still("end(22) = -1; end(-1) = -1; order(-1) = -1; order(500) = -1; end(21) = 21");
    }

    private static void rowing(Story s) {
        s.still("row(5, 7, 1, 5) = -1; row(-1, 7, 1, 5) = -1; row(4, 40, 1, 5) = -1; row(4, 7, 5, 5) = -1; row(4, 7, 4, 5) = -1; row(4, 7, 1, -1) = -1; row(4, 7, 1, 1000001) = -1; row(3, 7, 1, 5) = -1; row(1, 7, 0, 5) = -12; row(4, 5, 1, 5) = -13; "
            + "row(4, 1, 1, 5) = -13; row(4, 6, 1, 5) = -13; row(4, 10, 1, 5) = -13; row(0, 0, 2, 5) = -14; row(2, 3, 0, 5) = -14");
        s.still("sink(5, 5, 5) = -1; sink(1, 0, 5) = -1; sink(1, 10001, 5) = -1; sink(1, 5, -1) = -1; sink(1, 5, 10000) = -1; sink(0, 5, 5) = -2; sink(3, 5, 5) = -2; sink(4, 5, 5) = -2");
        s.is("end(0) = 0").order("fare 0 to 5 is 9; bridge 0 to 1;", 0, 2).text("least 7; fare 0 to 60").still("row(2, 2, 3, 5) = -15; row(0, 4, 3, 5) = -15; row(0, 4, 2, 5) = -16");
        s.is("frost(301, 1) = 0").still("row(4, 7, 1, 5) = -11; row(1, 5, 4, 5) = -11");
    }

    private static void box(Story s) {
        s.still("pension(0, 5) = -1; pension(10001, 5) = -1; pension(5, -1) = -1; pension(5, 10000) = -1");
    }

    private static void questions(Story s) {
        s.still("flow(0, 0) = -5; flow(310, 1) = 33; flow(500, 0) = -1000; flow(0, 12) = -1000; served(8) = 299; man(0, 0) = 2; man(0, 2) = 0; man(0, 3) = 1; man(1, 1) = 0; man(9, 1) = -1; man(5, 5) = 1; man(7, 4) = 1188; man(7, 6) = 1; man(40, 0) = -2; "
            + "man(0, 7) = -2; craft(1, 0) = 3; craft(1, 1) = 2; craft(1, 2) = 216853; craft(1, 3) = 5; craft(1, 4) = 1; craft(3, 4) = 2; craft(5, 0) = -1; craft(0, 5) = -1");
        s.still("inForce(0, 0) = -2; inForce(3, 0) = 0; inForce(301, 301) = 1; inForce(500, 0) = -1; inForce(0, 500) = -1; fare(0, 0, 1, 40, 1) = 36; fare(1, 0, 1, 3612, 2) = 30; fare(2, 0, 1, 0, 1) = -1; fare(0, 0, 0, 0, 1) = -1; fare(0, 0, 5, 0, 1) = -1; "
            + "fare(0, 0, 1, 6000, 1) = -1; fare(0, 0, 1, 0, 3) = -1");
        s.still("why(4, 7, 1) = 0; why(1, 7, 0) = 2; why(4, 5, 1) = 3; why(0, 0, 2) = 4; why(5, 7, 1) = -1; why(4, 40, 1) = -1; why(4, 7, 4) = -1; why(3, 7, 0) = -1; trip(0, 0) = 4; trip(1, 7) = 1; trip(3, 0) = -2; trip(0, 8) = -2; due(0, 301) = 30; "
            + "due(3, 0) = -2; due(0, 500) = -2; over(7, 301) = 1220; over(40, 0) = -1; over(7, 500) = -1; foretold() = 1000; pensioner(0, 0) = 30; pensioner(0, 2) = 30; pensioner(5, 0) = -1; pensioner(0, 3) = -1");
        for (int i = -1; i < 11; i++) s.still("count(" + i + ") = " + new int[] {-1, 5, 5, 3, 2, 216850, 7, 2, 1, 5, 21, -1}[i + 1]);
        for (int i = -1; i < 6; i++) s.still("coins(" + i + ") = " + new int[] {-1, 25, 127, 1188, 1382, 42, -1}[i + 1]);
    }

    /** The same river with as much of all as there may be; the last order shuts the bridge, so that it shows. */
    private static void manyThings() {
        Story s = busy().is("absent(1, 30, 30); absent(1, 40, 40); absent(1, 60, 60); absent(1, 70, 70) = 6");
        for (int i = 5; i < 12; i++) s.is("boat(1, 0)");
        for (int i = 12; i < 20; i++) s.is("boat(1, 4)");
        for (int i = 5; i < 29; i++) s.is("pension(1, 300) = " + i);
        s.is("pension(1, 302) = 29; end(0)");
        for (int i = 2; i < 19; i++) s.order("fare 0 to 60 is " + i + ";", 0, i);
        s.order("fare 0 to 60 is 5; bridge 0 to 0;", 0, 19).text(" ".repeat(381));
        s.still("boat(1, 0) = -3; boat(2, 4) = -3; boat(3, 0) = -1; pension(1, 1) = -3; pension(1, 10000) = -1; order(0) = -3; order(499) = -3; order(500) = -1; feed(0, 0, 0, 0, 0) = -3; feed(-1, -1, -1, -1, -1) = -3; absent(1, 90, 91) = -3; "
            + "absent(1, 70, 90) = -2; absent(1, 90, 302) = -1; sink(1, 5, 5) = -3; sink(1, 0, 5) = -1; sink(0, 5, 5) = -2");
        Story many = busy().is("end(21)");
        many.time(359990).still("minutes(10) = -1; minutes(1440) = -1; minutes(1441) = -1; row(0, 7, 2, 5) = -14; row(4, 7, 1, 5) = -17");
        Story twelve = Story.of(check, NOTHING).is("stairs(0)");
        for (int i = 1; i < 12; i++) twelve.is("stairs(" + 3 * i + ")");
        twelve.is("bridge(5); boat(1, 5); free(0); free(1); join(5, 0); join(5, 1); bind(2, 0); absent(2, 0, 0)").order("fare 0 to 60 is 100;", 3, 0).day(4).is("row(0, 0, 4, 900) = 0; pension(46, 9999); minutes(11)")
            .text("head").still("stairs(34) = -3; stairs(60) = -3; stairs(33) = -1");
    }

    /** More calls than an object is promised for: what is refused when 600 trips are kept. */
    private static void lastTrip() {
        Story s = busy().is("boat(2, 0)").is("leave(3); leave(0); leave(4)");
        for (int i = 3; i < 600; i++) s.is("row(5, 7, " + (i % 2) + ", 3) = " + i + "; minutes(40)");
        s.is("count(2) = 600; join(2, 0)").still("row(5, 7, 1, 3) = -1; row(5, 7, 0, 3) = -3; row(5, 7, 0, 1000000) = -3; row(5, 8, 0, 3) = -13");
    }
}
