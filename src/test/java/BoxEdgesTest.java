/** Chapter 5 of the document, promises 30 to 34 and the order of answers, sentence by sentence: the edges that they name. */
public final class BoxEdgesTest {
    private static final Check check = new Check();

    public static void main(String[] args) {
        pensionCalls();
        pensionerCalls();
        payDays();
        payInOrder();
        ends();
        payBehindASunday();
        nextForty();
        beyondTheEnd();
        window();
        potsOnTheirSundays();
        foretoldEnds();
        foretoldIsNotWhatComes();
        counts();
        coins();
        answers();
        ownMemory();
        check.end();
    }

    private static Story of(String sentence) {
        return Story.of(check, sentence);
    }

    /** Boats 0 and 1 at stairs 0, men 0 and 1 FREE; a trip takes ten minutes. */
    private static Story rich(String sentence) {
        return of(sentence).is("stairs(0); stairs(1); boat(1, 0); boat(1, 0); free(0); free(1)").order("fare 0 to 60 is 1;");
    }

    private static void pensionCalls() {
        String sentence = "A PENSIONER: its number. BAD (as sink()), FULL.";
        of(sentence).is("pension(0, 5) = -1; pension(-1, 5) = -1; pension(10001, 5) = -1; pension(5, -1) = -1; pension(5, 10000) = -1; count(8) = 0; pension(1, 0) = 0; pension(10000, 9999) = 1; pension(1, 9999) = 2; pension(10000, 0) = 3; count(8) = 4")
            .far("pension(#, 5)", -1).far("pension(5, #)", -1).is("pensioner(0, 0) = 1; pensioner(0, 1) = 0; pensioner(1, 0) = 10000; pensioner(1, 1) = 9999");
        Story s = of(sentence);
        for (int i = 0; i < 30; i++) s.is("count(8) = " + i + "; pension(" + (i + 1) + ", " + (i + 100) + ") = " + i);
        s.is("pension(1, 1) = -3; pension(10000, 9999) = -3; pension(0, 1) = -1; pension(10001, 1) = -1; pension(1, -1) = -1; pension(1, 10000) = -1; count(8) = 30");
        s = of("(PENSIONERS 0 .. 29, as they came)");
        for (int i = 0; i < 30; i++) s.is("pension(" + (i + 1) + ", " + (i + 100) + ") = " + i);
        for (int i = 0; i < 30; i++) s.is("pensioner(" + i + ", 0) = " + (i + 1) + "; pensioner(" + i + ", 1) = " + (i + 100));
        s.is("pensioner(30, 0) = -1; pension(1, 1) = -3; pensioner(30, 0) = -1");
    }

    private static void pensionerCalls() {
        of("Of a PENSIONER: 0 its PENSION, 1 END, 2 all that it got. BAD.").is("pensioner(0, 0) = -1; pension(6, 7) = 0; pensioner(0, 0) = 6; pensioner(0, 1) = 7; pensioner(0, 2) = 0; pensioner(0, 3) = -1; pensioner(0, -1) = -1; pensioner(1, 0) = -1; "
            + "pensioner(-1, 0) = -1").far("pensioner(#, 0)", -1).far("pensioner(0, #)", -1);
    }

    private static void payDays() {
        String sentence = "THE BOX pays, when a DAY begins whose number is a multiple of 100 (not DAY 0), each PENSION once";
        Story s = rich(sentence).is("row(0, 0, 1, 1000000) = 0; coins(0) = 50000; pension(3, 9999) = 0; pensioner(0, 2) = 0; minutes(720); pensioner(0, 2) = 0; coins(4) = 0");
        for (int pay = 1; pay <= 4; pay++) {
            s.time(pay * 72000 - 1).is("pensioner(0, 2) = " + 3 * (pay - 1)).time(pay * 72000).is("pensioner(0, 2) = " + 3 * pay + "; coins(4) = " + 3 * pay + "; coins(0) = " + (50000 - 3 * pay));
        }
        s.time(359999).is("pensioner(0, 2) = 12; coins(4) = 12; coins(0) = 49988; coins(3) = 1000000; coins(2) = 950000");
        rich(sentence).is("row(0, 0, 1, 1000) = 0").time(71999).is("pension(3, 9999) = 0; minutes(1); pensioner(0, 2) = 3; pension(4, 9999) = 1; minutes(1); pensioner(1, 2) = 0; pensioner(0, 2) = 3").day(200).is("pensioner(0, 2) = 6; pensioner(1, 2) = 4");
        rich(sentence).is("row(0, 0, 1, 1000) = 0; pension(3, 9999) = 0").time(98 * 720 + 721).is("minutes(1440) = 72721; pensioner(0, 2) = 3; minutes(1440); pensioner(0, 2) = 3");
    }

    private static void payInOrder() {
        String sentence = "in order (PENSIONERS 0 .. 29, as they came), as far as its coins go (one that it can't pay whole gets nothing)";
        rich(sentence).is("row(0, 0, 1, 2000) = 0; coins(0) = 100; pension(60, 9999); pension(50, 9999); pension(40, 9999); pension(1, 9999)").day(100).is("pensioner(0, 2) = 60; pensioner(1, 2) = 0; pensioner(2, 2) = 40; pensioner(3, 2) = 0; coins(0) = 0; coins(4) = 100");
        rich(sentence).is("row(0, 0, 1, 2000) = 0; pension(100, 9999); pension(1, 9999)").day(100).is("pensioner(0, 2) = 100; pensioner(1, 2) = 0; coins(0) = 0");
        rich(sentence).is("row(0, 0, 1, 2000) = 0; pension(101, 9999); pension(1, 9999)").day(100).is("pensioner(0, 2) = 0; pensioner(1, 2) = 1; coins(0) = 99").day(200).is("pensioner(0, 2) = 0; pensioner(1, 2) = 2");
        rich(sentence).is("pension(1, 9999)").day(100).is("pensioner(0, 2) = 0; coins(0) = 0; coins(4) = 0; row(0, 0, 1, 20)").day(200).is("pensioner(0, 2) = 1; coins(0) = 0").day(300).is("pensioner(0, 2) = 1");
        Story s = rich(sentence).is("row(0, 0, 1, 580) = 0; coins(0) = 29");
        for (int i = 0; i < 30; i++) s.is("pension(1, 9999)");
        s.day(100).is("pensioner(28, 2) = 1; pensioner(29, 2) = 0; coins(4) = 29");
        rich(sentence).is("row(0, 0, 1, 200) = 0; row(1, 1, 1, 0) = 1; sink(1, 6, 9999) = 0; pension(5, 9999) = 1").day(100).is("pensioner(0, 2) = 6; pensioner(1, 2) = 0; coins(0) = 4");
    }

    private static void ends() {
        rich("a PENSIONER has an END (a DAY): from then on it gets nothing.").is("row(0, 0, 1, 20000) = 0; pension(1, 99); pension(2, 100); pension(4, 101); pension(8, 200); pension(16, 201); pension(32, 0); pension(64, 9999)").day(100)
            .is("coins(4) = 92; pensioner(0, 2) = 0; pensioner(1, 2) = 0; pensioner(2, 2) = 4; pensioner(3, 2) = 8; pensioner(5, 2) = 0").day(200).is("coins(4) = 172; pensioner(2, 2) = 4; pensioner(3, 2) = 8; pensioner(4, 2) = 32; pensioner(6, 2) = 128").day(300)
            .is("coins(4) = 236; pensioner(4, 2) = 32");
        rich("a PENSIONER has an END (a DAY): from then on it gets nothing.").is("row(0, 0, 1, 20000) = 0; row(1, 1, 1, 0); sink(1, 5, 100) = 0; pension(7, 400) = 1; pension(9, 401) = 2").day(400).is("pensioner(0, 2) = 0; pensioner(1, 2) = 21; pensioner(2, 2) = 36");
    }

    /** DAY 399 is a SUNDAY: its POT's rest is in THE BOX when DAY 400 begins. */
    private static void payBehindASunday() {
        rich("When a SUNDAY ends THE POT is parted").day(399).is("row(0, 0, 1, 19) = 0; row(1, 1, 1, 0) = 1; pension(1, 9999) = 0; coins(0) = 0").time(288000 - 1).is("pensioner(0, 2) = 0").time(288000).is("pensioner(0, 2) = 1; coins(0) = 0; coins(2) = 18");
    }

    private static void nextForty() {
        String sentence = "FORETOLD: the first of the next 40 such DAYS on which some PENSION could not be paid whole";
        rich(sentence).is("foretold() = -2; pension(1, 9999); foretold() = 100").time(71999).is("foretold() = 100").time(72000).is("foretold() = 200; minutes(1); foretold() = 200").time(144000 - 1).is("foretold() = 200").time(144000).is("foretold() = 300");
        rich(sentence).is("row(0, 0, 1, 780) = 0; coins(0) = 39; pension(40, 9999); foretold() = 4000");
        rich(sentence).is("row(0, 0, 1, 800) = 0; coins(0) = 40; pension(41, 9999); foretold() = -2");
        rich(sentence).is("row(0, 0, 1, 800) = 0; pension(80, 9999); foretold() = 200");
        rich(sentence).is("row(0, 0, 1, 800) = 0; pension(81, 9999); foretold() = 100; pension(1, 9999); foretold() = 100");
        rich(sentence).is("row(0, 0, 1, 800) = 0; pension(40, 9999); foretold() = -2; pension(20, 9999); foretold() = 300; pension(20, 100); foretold() = 300; pension(20, 101); foretold() = 200");
        rich(sentence).is("row(0, 0, 1, 20) = 0; pension(3, 9999); pension(1, 9999); foretold() = 100");
        of("FORETOLD: the DAY; NOT: none of these.").is("foretold() = -2; pension(1, 100); foretold() = -2; pension(1, 101); foretold() = 100");
    }

    private static void beyondTheEnd() {
        String sentence = "(These DAYS go on beyond the end of TIME.)";
        rich(sentence).day(499).is("pension(1, 9999) = 0; foretold() = 500; row(0, 0, 1, 780) = 0; foretold() = -2; pension(39, 9999) = 1; foretold() = 4400").time(359999).is("foretold() = 4400");
        rich(sentence).day(499).is("row(0, 0, 1, 800) = 0; pension(41, 9999) = 0; foretold() = -2");
        rich(sentence).day(400).is("row(0, 0, 1, 780) = 0; pension(40, 9999) = 0; foretold() = 4400");
        rich(sentence).day(399).is("row(0, 0, 1, 780) = 0; pension(40, 9999) = 0; foretold() = 4300");
    }

    private static void window() {
        String sentence = "what came into it by TRIPS and POTS (these on their SUNDAYS) from DAY TODAY - 100 (0 at least) to TODAY, TODAY's too.";
        rich(sentence).day(30).is("row(0, 0, 1, 20) = 0; pension(1, 9999); foretold() = -2").day(130).is("foretold() = -2; coins(0) = 0").time(131 * 720 - 1).is("foretold() = -2").time(131 * 720).is("foretold() = 200");
        rich(sentence).is("row(0, 0, 1, 20) = 0; pension(1, 9999)").day(99).is("foretold() = -2").day(100).is("foretold() = -2; coins(0) = 0").day(101).is("foretold() = 200");
        rich(sentence).day(100).is("pension(2, 9999); foretold() = 200; row(0, 0, 1, 20) = 0; foretold() = 300; minutes(10); row(0, 0, 0, 20) = 1; foretold() = -2");
        rich(sentence).day(1).is("row(0, 0, 1, 60) = 0").day(50).is("row(0, 0, 0, 80) = 1; pension(9, 9999); foretold() = 400").day(101).is("foretold() = 500; coins(0) = 7; pension(1, 101); pension(1, 9999); foretold() = 400").day(102).is("foretold() = 300");
        rich(sentence).day(10).is("row(0, 0, 1, 20) = 0; minutes(10); row(0, 0, 0, 39) = 1; minutes(10); row(0, 0, 1, 19) = 2; coins(0) = 2; pension(3, 9999); foretold() = 300");
    }

    private static void potsOnTheirSundays() {
        String sentence = "and POTS (these on their SUNDAYS)";
        rich(sentence).is("pension(1, 9999); row(0, 0, 1, 19) = 0; row(1, 1, 1, 0) = 1; foretold() = 100").time(719).is("foretold() = 100").time(720).is("coins(0) = 1; foretold() = -2").day(100).is("coins(0) = 0; foretold() = -2").day(101).is("foretold() = 200");
        rich(sentence).day(7).is("pension(1, 9999); row(0, 0, 1, 19) = 0; row(1, 1, 1, 0) = 1; minutes(1440); foretold() = -2").time(108 * 720 - 1).is("foretold() = -2").time(108 * 720).is("foretold() = 200");
    }

    private static void foretoldEnds() {
        String sentence = "a PENSIONER has an END (a DAY): from then on it gets nothing.";
        rich(sentence).is("pension(1, 4000); row(0, 0, 1, 780) = 0; pension(39, 9999); foretold() = -2; pension(1, 4000); foretold() = 2000");
        rich(sentence).is("row(0, 0, 1, 780) = 0; pension(40, 4000); foretold() = -2; pension(1, 100); foretold() = -2").day(1).is("foretold() = -2");
        rich(sentence).is("row(0, 0, 1, 780) = 0; pension(40, 4001); foretold() = 4000");
    }

    /** A PENSION that can't be paid ends what is looked at: who would get what behind it is nothing to it. */
    private static void foretoldIsNotWhatComes() {
        rich("if each time ahead of paying there came into THE BOX").is("row(0, 0, 1, 200) = 0; coins(0) = 10; pension(15, 9999); foretold() = 300; coins(0) = 10; pensioner(0, 2) = 0; pension(5, 9999); foretold() = 200; coins(0) = 10; count(4) = 0");
    }

    private static void counts() {
        String sentence = "How many: 0 STAIRS, 1 BOATS (sunk ones, too), 2 TRIPS, 3 ORDERS, 4 TIME, 5 FREE men, 6 BOUND ones, 7 DEAD ones, 8 PENSIONERS, 9 bytes on THE TAPE. BAD.";
        Story s = rich(sentence).is("free(2); bind(3, 2); bind(4, 2); bind(5, 2); minutes(9); row(0, 0, 1, 5) = 0; sink(0, 1, 1) = 0; row(1, 1, 1, 5) = 1; pension(1, 1) = 1; pension(1, 1) = 2; stairs(9) = 2; feed(0, 0, 0, 0, 0) = 20; end(11) = 11; boat(2, 2) = 2");
        s.order("with 1;", 0, -100).order("least 1;", 9, 1).text("with");
        int[] due = {3, 3, 2, 2, 9, 2, 3, 1, 3, 4};
        for (int i = 0; i < 10; i++) s.is("count(" + i + ") = " + due[i]);
        s.is("count(-1) = -1; count(10) = -1").far("count(#)", -1);
    }

    private static void coins() {
        String sentence = "Coins: 0 in THE BOX, 1 in THE POT, 2 all men's, 3 all that was PAID, 4 all PENSIONS that were paid. BAD.";
        Story s = rich(sentence).is("row(0, 0, 1, 100) = 0; coins(0) = 5; coins(1) = 95; coins(2) = 0; coins(3) = 100; coins(4) = 0; pension(2, 9999)").day(1).is("coins(0) = 5; coins(1) = 0; coins(2) = 95");
        s.is("row(1, 1, 1, 50) = 1; coins(0) = 7; coins(1) = 0; coins(2) = 143; coins(3) = 150; sink(1, 3, 9999) = 1; coins(2) = 143").day(100).is("coins(0) = 2; coins(4) = 5; coins(3) = 150; coins(2) = 143");
        s.is("coins(-1) = -1; coins(5) = -1").far("coins(#)", -1);
    }

    /** Two rivers know nothing of each other, however their calls are mixed. */
    private static void ownMemory() {
        Quotes.mustStand(check, "All memory is the class's own.");
        WaterMen x = new WaterMen(), y = new WaterMen(), alone = new WaterMen();
        for (int i = 0; i < 12; i++) {
            x.stairs(i);
            y.stairs(2 * i);
            alone.stairs(2 * i);
            x.free(i);
            x.table(i, i);
            x.feed(i, i, i, i, i);
        }
        for (WaterMen river : new WaterMen[] {y, alone}) {
            river.boat(1, 0);
            river.free(0);
            Check.order(river, "fare 0 to 60 is 5;", 0);
            x.end(0);
            Check.order(x, "with 1;", 0);
            x.minutes(1440);
            river.row(0, 0, 1, 100);
            x.pension(1, 1);
        }
        check.holds("a river beside another one is as if it were alone", Check.allOf(y).equals(Check.allOf(alone)));
    }

    /** Each call that may answer two of them, once more with both at hand; that nothing changes is held behind every one. */
    private static void answers() {
        String sentence = "Answers, of several the one named first: BAD (-1): no such thing, or a number is not as said; NOT (-2): as told; FULL (-3); WHY: -10 less WHY. What is answered so changes nothing.";
        Story s = rich(sentence);
        for (int i = 2; i < 12; i++) s.is("stairs(" + 5 * i + ") = " + i);
        for (int i = 2; i < 20; i++) s.is("boat(1, 0) = " + i);
        for (int i = 0; i < 30; i++) s.is("pension(1, 9999) = " + i);
        for (int i = 1; i < 20; i++) s.order("fare 0 to 60 is " + i + ";", 0, i);
        s.is("bind(2, 0) = 1").day(20);
        for (int i = 0; i < 6; i++) s.is("absent(2, " + 3 * i + ", " + 3 * i + ") = " + (i + 1));
        s.text("x".repeat(400)).is("join(1, 1) = 1; row(0, 0, 1, 5) = 0");
        s.is("stairs(60) = -3; stairs(55) = -1; boat(1, 0) = -3; boat(3, 0) = -1; boat(1, 12) = -1; pension(1, 1) = -3; pension(0, 1) = -1; order(0) = -3; order(500) = -1; feed(1, 2, 3, 4, 5) = -3; absent(2, 18, 18) = -3; absent(2, 18, 21) = -1; "
            + "absent(2, 16, 16) = -2; absent(2, 15, 18) = -2; absent(0, 18, 18) = -2; absent(0, 18, 21) = -1; absent(40, 18, 18) = -1");
        s.is("sink(0, 5, 5) = -3; sink(0, 0, 5) = -1; sink(1, 5, 5) = -2; sink(1, 5, 10000) = -1; sink(20, 5, 5) = -1; free(0) = -2; free(40) = -1; bind(0, 0) = -2; bind(0, 40) = -1; bind(40, 2) = -1; join(0, 1) = -2; join(12, 1) = -1; join(0, 2) = -2; "
            + "leave(0) = -2; leave(40) = -1; served(0) = -2; served(40) = -1; pass(0) = -2; pass(40) = -1; pass(2) = -386; end(401) = -1; end(-1) = -1; minutes(0) = -1; minutes(1441) = -1; frost(19, 1) = -1; frost(20, 2) = -1");
        s.is("row(0, 1, 0, 5) = -12; row(0, 1, 0, -1) = -1; row(1, 2, 1, 5) = -13; row(1, 2, 0, 5) = -1; row(20, 1, 1, 5) = -1; bridge(11) = -1; bridge(-2) = -1; level(20, 12, 0) = -1; level(20, 0, 91) = -1; table(12, 0) = -1000; table(0, 91) = -1000");
    }
}
