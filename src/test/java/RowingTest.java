/** Promises 23 to 29: why, row, minutes, sink, trip, due, over. */
public final class RowingTest {
    private static final Check check = new Check();

    public static void main(String[] args) {
        badRows();
        reasonsInOrder();
        bridgeLines();
        endOfTime();
        times();
        turns();
        trips();
        manyTrips();
        money();
        sundays();
        twoSundaysAndFewCoins();
        minutes();
        sinking();
        due();
        dueByTheWater();
        over();
        check.end();
    }

    private static WaterMen small(String text) {
        WaterMen x = new WaterMen();
        x.stairs(0);
        x.stairs(6);
        x.stairs(60);
        x.boat(1, 0);
        x.boat(2, 0);
        x.free(0);
        x.free(1);
        Check.order(x, text, 0);
        return x;
    }

    private static void badRows() {
        WaterMen x = small("fare 0 to 60 is 10;");
        int[][] bad = {{2, 0, 1, 0}, {0, 40, 1, 0}, {0, 0, 3, 0}, {0, 0, 0, 0}};
        for (int[] b : bad) {
            check.is("P23 bad", x.why(b[0], b[1], b[2]), -1);
            check.is("P24 bad", x.row(b[0], b[1], b[2], b[3]), -1);
        }
        for (int e : Check.edges()) {
            for (int i = 0; i < 4; i++) {
                int[] b = {0, 0, 1, 0};
                b[i] = e;
                check.is("P24 edge", x.row(b[0], b[1], b[2], b[3]), -1);
                if (i < 3) check.is("P23 edge", x.why(b[0], b[1], b[2]), -1);
            }
        }
        check.is("P24 paid -1", x.row(0, 0, 1, -1), -1);
        check.is("P24 paid too much", x.row(0, 0, 1, 1000001), -1);
        x.frost(0, 1);
        check.is("P24 bad ahead of why", x.row(0, 0, 1, 1000001), -1);
        check.is("P24 why", x.row(0, 0, 1, 1000000), -11);
        x.frost(0, 0);
        check.is("P24 paid a million", x.row(0, 0, 1, 1000000), 0);
        check.is("P24 paid nothing", x.row(1, 1, 1, 0), 1);
    }

    /** Every reason is set, then taken away one by one, the first one first. */
    private static void reasonsInOrder() {
        WaterMen x = new WaterMen();
        x.stairs(0);
        x.stairs(6);
        x.stairs(12);
        x.bridge(0);
        x.boat(1, 0);
        x.free(1);
        x.free(2);
        Check.order(x, "fare 0 to 6 is 10;", 0);
        x.row(0, 1, 1, 0);
        x.join(1, 2);
        x.frost(0, 1);
        check.is("P23 frost", x.why(0, 0, 0), 1);
        x.frost(0, 0);
        check.is("P23 boat on a way", x.why(0, 0, 0), 2);
        check.is("P23 boat on a way, its man", x.why(0, 1, 2), 2);
        check.is("P24 boat on a way", x.row(0, 0, 0, 1), -12);
        check.is("P23 to where it goes", x.why(0, 0, 1), -1);
        Check.goTo(x, 60);
        check.is("P23 nobody", x.why(0, 0, 0), 3);
        x.bind(3, 2);
        check.is("P23 bound", x.why(0, 3, 0), 3);
        x.free(0);
        check.is("P23 not his turn", x.why(0, 0, 0), 4);
        check.is("P23 not his turn ahead of no fare", x.why(0, 0, 2), 4);
        Check.order(x, "fare 7 to 60 is 10; bridge 3 to 4;", 0);
        x.leave(2);
        check.is("P23 no fare", x.why(0, 0, 0), 5);
        Check.order(x, "fare 6 to 6 is 10; bridge 3 to 4;", 0);
        check.is("P23 bridge", x.why(0, 0, 0), 6);
        check.is("P24 bridge", x.row(0, 0, 0, 1), -16);
        check.is("P23 no bridge on the way", x.why(0, 0, 2), 0);
        Check.goTo(x, 180);
        check.is("P23 may be", x.why(0, 0, 0), 0);
        x.boat(1, 0);
        x.row(1, 0, 1, 0);
        check.is("P23 man on a way", x.why(0, 0, 0), 3);
        WaterMen y = new WaterMen();
        y.stairs(0);
        y.stairs(6);
        y.boat(1, 0);
        y.free(0);
        check.is("P23 no order", y.why(0, 0, 1), 5);
        Check.order(y, "fare 0 to 60 is 1;", 1);
        check.is("P23 none in force yet", y.why(0, 0, 1), 5);
        Check.goToDay(y, 1);
        check.is("P23 in force", y.why(0, 0, 1), 0);
        Check.order(y, "fare 0 to 5 is 1;", 0);
        check.is("P23 the one made last has no fare", y.why(0, 0, 1), 5);
    }

    private static void bridgeLines() {
        WaterMen x = small("fare 0 to 60 is 1; bridge 2 to 3;");
        x.bridge(1);
        for (int h = 0; h < 12; h++) {
            Check.goTo(x, h * 60 + 59);
            check.is("P23 bridge line, hour " + h, x.why(0, 0, 2), h == 2 || h == 3 ? 0 : 6);
            check.is("P23 below the bridge, hour " + h, x.why(0, 0, 1), 0);
        }
        WaterMen y = small("fare 0 to 60 is 1; head 5;");
        y.bridge(0);
        int[] levels = {0, 5, 11, 6, 0, 0};
        for (int i = 0; i < 6; i++) y.table(i, levels[i]);
        int[] due = {0, 6, 0, 6, 0, 0};
        for (int h = 0; h < 6; h++) {
            Check.goTo(y, h * 60);
            check.is("P23 head line, hour " + h, y.why(0, 0, 1), due[h]);
        }
        y.bridge(-1);
        y.table(6, 90);
        check.is("P23 no bridge", y.why(0, 0, 1), 0);
        y.bridge(0);
        check.is("P23 the head again", y.why(0, 0, 1), 6);
        Check.order(y, "fare 0 to 60 is 1; head 5; bridge 5 to 5;", 0);
        check.is("P23 both lines, one hinders", y.why(0, 0, 1), 6);
        Check.order(y, "fare 0 to 60 is 1;", 0);
        check.is("P23 neither line", y.why(0, 0, 1), 0);
        Check.order(y, "fare 0 to 60 is 1; bridge 11 to 0;", 0);
        y.table(6, 0);
        check.is("P23 no hour is in it", y.why(0, 0, 1), 6);
        Check.order(y, "fare 0 to 60 is 1; head 0;", 0);
        check.is("P23 head 0, the water stands", y.why(0, 0, 1), 0);
    }

    private static void endOfTime() {
        WaterMen x = small("fare 0 to 60 is 1;");
        x.boat(1, 1);
        Check.goTo(x, 359999 - 60);
        check.is("P23 there at the end of time", x.why(0, 0, 1), 0);
        check.is("P23 behind the end of time", x.why(2, 0, 2), 7);
        check.is("P24 behind the end of time", x.row(2, 0, 2, 5), -17);
        check.is("P25 one more", x.minutes(1), 359940);
        check.is("P23 one minute too late", x.why(0, 0, 1), 7);
        check.is("P23 two oars", x.why(1, 0, 1), 0);
        check.is("P24 two oars", x.row(1, 0, 1, 5), 0);
        check.is("P25 beyond the end", x.minutes(60), -1);
        check.is("P25 to the end", x.minutes(59), 359999);
        check.is("P25 no more", x.minutes(1), -1);
        check.is("P15 there", x.craft(1, 4), 0);
        check.is("P33 time", x.count(4), 359999);
    }

    private static void times() {
        WaterMen x = new WaterMen();
        x.stairs(0);
        x.stairs(1);
        x.stairs(20);
        x.table(1, 1);
        for (int i = 0; i < 8; i++) x.boat(1 + i % 2, i / 2 % 3);
        for (int i = 0; i < 8; i++) x.free(i);
        Check.order(x, "fare 0 to 60 is 1;", 0);
        x.row(0, 0, 1, 0);
        check.is("P24 with, a mile", x.trip(0, 5), 7);
        x.row(1, 1, 2, 0);
        check.is("P24 with, two oars", x.trip(1, 5), 20 * 7 * 2 / 3);
        x.row(2, 2, 0, 0);
        check.is("P24 against", x.trip(2, 5), 14);
        x.row(3, 3, 0, 0);
        check.is("P24 against, two oars", x.trip(3, 5), 9);
        Check.goTo(x, 60);
        x.row(4, 4, 1, 0);
        check.is("P24 with, down", x.trip(4, 5), 60 + 19 * 7);
        x.row(6, 5, 1, 0);
        check.is("P24 against, up", x.trip(5, 5), 60 + 14);
        Check.goTo(x, 120);
        x.row(5, 6, 0, 0);
        check.is("P24 the water stands, two oars", x.trip(6, 5), 120 + 133);
        x.row(7, 7, 1, 0);
        check.is("P24 a mile, two oars", x.trip(7, 5), 120 + 6);
    }

    private static void turns() {
        WaterMen x = small("fare 0 to 60 is 10;");
        x.free(2);
        x.join(1, 0);
        check.is("P23 in another row, this one empty", x.why(0, 0, 1), 0);
        x.join(0, 1);
        x.join(0, 2);
        check.is("P23 in another row, this one not empty", x.why(0, 0, 1), 4);
        check.is("P23 the second", x.why(0, 2, 1), 4);
        check.is("P23 the first", x.why(0, 1, 1), 0);
        x.row(0, 1, 1, 0);
        check.is("P24 he leaves his row", x.man(1, 2), -1);
        check.is("P23 the next", x.why(1, 2, 1), 0);
        x.row(1, 2, 1, 0);
        x.boat(1, 0);
        x.row(2, 0, 1, 0);
        check.is("P24 he leaves his row elsewhere, too", x.man(0, 2), -1);
        check.is("P24 all three", x.count(2), 3);
    }

    private static void trips() {
        WaterMen x = small("fare 0 to 60 is 10;");
        Check.goTo(x, 723);
        check.is("P24 number", x.row(1, 1, 2, 77), 0);
        int[] due = {1, 1, 0, 2, 723, 723 + 400, 77, 0};
        for (int i = 0; i < 8; i++) check.is("P27 what " + i, x.trip(0, i), due[i]);
        check.is("P24 number", x.row(0, 0, 1, 5), 1);
        Check.goTo(x, 783);
        check.is("P24 number", x.row(0, 0, 0, 6), 2);
        check.is("P27 from", x.trip(2, 2), 1);
        check.is("P27 to", x.trip(2, 3), 0);
        x.sink(0, 1, 1);
        check.is("P27 sank", x.trip(2, 7), 1);
        check.is("P27 an earlier one did not", x.trip(1, 7), 0);
        check.is("P27 still when it would be there", x.trip(2, 5), 843);
        check.is("P27 what 8", x.trip(0, 8), -2);
        check.is("P27 no such", x.trip(3, 0), -2);
        for (int e : Check.edges()) {
            check.is("P27 trip edge", x.trip(e, 0), -2);
            check.is("P27 what edge", x.trip(0, e), -2);
        }
        check.is("P33 trips", x.count(2), 3);
    }

    /** More calls than an object is promised for: it must end and throw nothing all the same. */
    private static void manyTrips() {
        WaterMen x = new WaterMen();
        x.stairs(0);
        x.stairs(1);
        x.boat(2, 0);
        x.free(0);
        Check.order(x, "fare 0 to 60 is 1;", 0);
        for (int i = 0; i < 600; i++) {
            check.is("P24 many", x.row(0, 0, 1 - i % 2, 1000000), i);
            x.minutes(10);
        }
        check.is("P24 full", x.row(0, 0, 1, 0), -3);
        check.is("P34 all paid", x.coins(3), 600000000);
        check.is("P29 all above", x.over(0, 499), 600000000 - 600);
    }

    private static void money() {
        WaterMen x = small("fare 0 to 60 is 10;");
        Check.goToDay(x, 1);
        x.row(0, 0, 1, 119);
        check.is("P24 a twentieth", x.coins(0), 5);
        check.is("P24 the rest is his", x.man(0, 4), 114);
        check.is("P34 no pot", x.coins(1), 0);
        x.row(1, 1, 1, 19);
        check.is("P24 no twentieth", x.coins(0), 5);
        check.is("P24 all is his", x.man(1, 4), 19);
        check.is("P34 all men's", x.coins(2), 133);
        check.is("P34 all paid", x.coins(3), 138);
    }

    private static void sundays() {
        WaterMen x = small("fare 0 to 60 is 10;");
        x.free(2);
        x.boat(1, 0);
        Check.goToDay(x, 7);
        x.row(0, 0, 1, 101);
        x.row(1, 1, 1, 50);
        x.row(2, 2, 1, 0);
        check.is("P34 pot", x.coins(1), 96 + 48);
        check.is("P34 box", x.coins(0), 5 + 2);
        check.is("P13 nothing yet", x.man(0, 4), 0);
        x.sink(0, 10, 9999);
        Check.goTo(x, 7 * 720 + 300);
        check.is("P24 again the same man", x.row(1, 1, 0, 7), 3);
        check.is("P34 pot", x.coins(1), 151);
        Check.goTo(x, 8 * 720 - 1);
        check.is("P34 the pot is still there", x.coins(1), 151);
        Check.goTo(x, 8 * 720);
        check.is("P34 the pot is parted", x.coins(1), 0);
        check.is("P13 a dead one's part", x.man(0, 4), 50);
        check.is("P13 one part for two trips", x.man(1, 4), 50);
        check.is("P13 one part for a trip without pay", x.man(2, 4), 50);
        check.is("P34 what is left over", x.coins(0), 8);
        check.is("P34 all men's", x.coins(2), 150);
    }

    private static void twoSundaysAndFewCoins() {
        WaterMen x = small("fare 0 to 60 is 10;");
        x.row(0, 0, 1, 1);
        x.row(1, 1, 1, 0);
        Check.goToDay(x, 1);
        check.is("P34 one coin for two men goes into the box", x.coins(0), 1);
        check.is("P34 men have none", x.coins(2), 0);
        Check.goToDay(x, 7);
        x.row(0, 0, 0, 10);
        x.minutes(1440);
        check.is("P13 the second Sunday is his alone", x.man(0, 4), 10);
        check.is("P13 the other rowed on the first alone", x.man(1, 4), 0);
        Check.goToDay(x, 14);
        check.is("P34 a Sunday without trips", x.minutes(720), 15 * 720);
        check.is("P34 nothing is parted twice", x.coins(2), 10);
    }

    private static void minutes() {
        WaterMen x = new WaterMen();
        check.is("P25 0", x.minutes(0), -1);
        check.is("P25 1441", x.minutes(1441), -1);
        for (int e : Check.edges()) check.is("P25 edge", x.minutes(e), -1);
        check.is("P25 1", x.minutes(1), 1);
        check.is("P25 1440", x.minutes(1440), 1441);
        check.is("P33 time", x.count(4), 1441);
    }

    private static void sinking() {
        WaterMen x = small("fare 0 to 60 is 10;");
        check.is("P26 not on a way", x.sink(0, 5, 5), -2);
        check.is("P26 no such", x.sink(2, 5, 5), -1);
        x.row(0, 0, 1, 0);
        int[][] bad = {{0, 0, 5}, {0, 10001, 5}, {0, 5, -1}, {0, 5, 10000}};
        for (int[] b : bad) check.is("P26 bad", x.sink(b[0], b[1], b[2]), -1);
        for (int e : Check.edges()) {
            check.is("P26 boat edge", x.sink(e, 5, 5), -1);
            check.is("P26 pension edge", x.sink(0, e, 5), -1);
            check.is("P26 end edge", x.sink(0, 5, e), -1);
        }
        check.is("P26 bad ahead of not", x.sink(1, 0, 5), -1);
        for (int i = 0; i < 30; i++) x.pension(1, 0);
        check.is("P26 full", x.sink(0, 5, 5), -3);
        check.is("P26 not ahead of full", x.sink(1, 5, 5), -2);
        check.is("P26 nothing has changed", x.craft(0, 4), 1);
        Check.goTo(x, 60);
        check.is("P26 it is there", x.sink(0, 5, 5), -2);

        WaterMen y = small("fare 0 to 60 is 10;");
        y.row(0, 0, 1, 0);
        Check.goTo(y, 59);
        check.is("P26 sinks", y.sink(0, 10000, 9999), 0);
        check.is("P26 its pension", y.pensioner(0, 0), 10000);
        check.is("P26 its end", y.pensioner(0, 1), 9999);
        check.is("P26 dead", y.man(0, 0), 3);
        check.is("P33 dead", y.count(7), 1);
        check.is("P33 boats, the sunk one too", y.count(1), 2);
        check.is("P26 sunk already", y.sink(0, 5, 5), -2);
        check.is("P23 a sunk one", y.why(0, 1, 0), -1);
        check.is("P24 a sunk one", y.row(0, 1, 0, 0), -1);
        check.is("P23 a dead man", y.why(1, 0, 1), 3);
        y.row(1, 1, 1, 0);
        check.is("P26 the least", y.sink(1, 1, 0), 1);
    }

    private static void due() {
        WaterMen x = small("fare 0 to 60 is 100; oars 150; sunday 200; hour 1 to 1 is 300;");
        Check.goTo(x, 60);
        x.row(0, 0, 1, 0);
        x.row(1, 1, 1, 0);
        check.is("P28 by its hour, on a Sunday", x.due(0, 0), 600);
        check.is("P28 with two oars", x.due(1, 0), 900);
        Check.goToDay(x, 5);
        Check.order(x, "fare 0 to 60 is 10;", 0);
        Check.order(x, "fare 0 to 60 is 20;", 1);
        check.is("P28 as known ahead", x.due(0, 4), 600);
        check.is("P28 as known later", x.due(0, 5), 10);
        check.is("P28 as known at last", x.due(0, 499), 10);
        x.row(0, 0, 0, 0);
        check.is("P28 none as known then", x.due(2, 5), 20);
        check.is("P28 as known ahead of it", x.due(2, 4), 100);
        Check.goToDay(x, 6);
        Check.order(x, "fare 7 to 60 is 10;", 0);
        check.is("P28 an order without a fare for it", x.due(0, 6), -1);
        check.is("P28 as known one day ahead", x.due(0, 5), 10);
        check.is("P28 no such trip", x.due(3, 0), -2);
        check.is("P28 day 500", x.due(0, 500), -2);
        for (int e : Check.edges()) {
            check.is("P28 trip edge", x.due(e, 0), -2);
            check.is("P28 day edge", x.due(0, e), -2);
        }
        WaterMen y = new WaterMen();
        y.stairs(0);
        y.stairs(5);
        y.boat(1, 0);
        y.free(0);
        Check.goToDay(y, 2);
        Check.order(y, "fare 0 to 60 is 3;", 0);
        y.row(0, 0, 1, 50);
        check.is("P28 no order as known then", y.due(0, 1), -1);
        check.is("P29 no order as known then", y.over(0, 1), 0);
        check.is("P29 as known now", y.over(0, 2), 47);
    }

    private static void dueByTheWater() {
        WaterMen x = small("fare 0 to 60 is 100; with 50; against 200;");
        x.row(0, 0, 1, 100);
        check.is("P28 the water stands", x.due(0, 0), 100);
        x.level(0, 1, 9);
        check.is("P28 the water is told to have gone with it", x.due(0, 0), 50);
        x.level(0, 1, -9);
        check.is("P28 against it", x.due(0, 0), 200);
    }

    private static void over() {
        WaterMen x = small("fare 0 to 60 is 100;");
        x.row(0, 0, 1, 130);
        x.row(1, 1, 1, 99);
        Check.goTo(x, 60);
        x.row(0, 0, 0, 70);
        Check.goTo(x, 120);
        x.row(0, 0, 1, 105);
        check.is("P29 above due", x.over(0, 0), 35);
        check.is("P29 less counts 0", x.over(1, 0), 0);
        check.is("P29 no trips", x.over(2, 0), 0);
        check.is("P29 nobody", x.over(39, 499), 0);
        Check.goToDay(x, 1);
        Check.order(x, "fare 0 to 60 is 10;", 0);
        check.is("P29 as known later", x.over(0, 1), 120 + 60 + 95);
        check.is("P29 as known ahead", x.over(0, 0), 35);
        check.is("P29 no such", x.over(40, 0), -1);
        check.is("P29 day 500", x.over(0, 500), -1);
        for (int e : Check.edges()) {
            check.is("P29 man edge", x.over(e, 0), -1);
            check.is("P29 day edge", x.over(0, e), -1);
        }
    }
}
