/** Promises 1 to 7: a new object, stairs, bridge, level, table, flow, frost. */
public final class RiverTest {
    private static final Check check = new Check();

    public static void main(String[] args) {
        newObject();
        stairs();
        bridge();
        bridgeIsPassed();
        level();
        table();
        flow();
        frost();
        check.end();
    }

    private static void newObject() {
        WaterMen x = new WaterMen();
        for (int i = 0; i < 10; i++) check.is("P1 count " + i, x.count(i), 0);
        for (int i = 0; i < 5; i++) check.is("P1 coins " + i, x.coins(i), 0);
        int[] due = {0, -1, -1, -1, 0, 0, 0};
        for (int m = 0; m < 40; m++) {
            for (int i = 0; i < 7; i++) check.is("P1 man " + m + ", " + i, x.man(m, i), due[i]);
        }
        check.is("P1 no boat", x.craft(0, 0), -1);
        check.is("P1 no order", x.inForce(0, 0), -2);
        check.is("P1 no trip", x.trip(0, 0), -2);
        check.is("P1 foretold", x.foretold(), -2);
        for (int h = 0; h < 12; h++) check.is("P1 flow", x.flow(499, h), 0);
    }

    private static void stairs() {
        WaterMen x = new WaterMen();
        check.is("P2 below 0", x.stairs(-1), -1);
        check.is("P2 above 60", x.stairs(61), -1);
        for (int e : Check.edges()) check.is("P2 edge " + e, x.stairs(e), -1);
        check.is("P2 first at 0", x.stairs(0), 0);
        check.is("P2 same miles", x.stairs(0), -1);
        for (int i = 1; i < 12; i++) check.is("P2 next", x.stairs(i * 2), i);
        check.is("P2 full", x.stairs(60), -3);
        check.is("P2 bad ahead of full", x.stairs(22), -1);
        check.is("P2 bad ahead of full, too many", x.stairs(61), -1);
        check.is("P2 count", x.count(0), 12);
        WaterMen y = new WaterMen();
        check.is("P2 60 is the most", y.stairs(60), 0);
        check.is("P2 none above 60", y.stairs(60), -1);
    }

    private static void bridge() {
        WaterMen x = new WaterMen();
        check.is("P3 no stairs", x.bridge(0), -1);
        check.is("P3 none, without stairs", x.bridge(-1), 1);
        x.stairs(0);
        check.is("P3 the last ones", x.bridge(0), -1);
        x.stairs(5);
        check.is("P3 no longer the last", x.bridge(0), 1);
        check.is("P3 the last ones", x.bridge(1), -1);
        check.is("P3 no such", x.bridge(2), -1);
        check.is("P3 -2", x.bridge(-2), -1);
        check.is("P3 least int", x.bridge(Integer.MIN_VALUE), -1);
        check.is("P3 greatest int", x.bridge(Integer.MAX_VALUE), -1);
    }

    private static void bridgeIsPassed() {
        WaterMen x = new WaterMen();
        for (int i = 0; i < 4; i++) x.stairs(i);
        for (int i = 0; i < 4; i++) x.boat(1, i);
        x.free(0);
        Check.order(x, "fare 0 to 60 is 1; bridge 5 to 5;", 0);
        for (int above = -1; above < 3; above++) {
            x.bridge(above);
            for (int from = 0; from < 4; from++) {
                for (int to = 0; to < 4; to++) {
                    boolean passes = above >= 0 && (from <= above) != (to <= above);
                    int due = from == to ? -1 : passes ? 6 : 0;
                    check.is("P3 bridge " + above + " from " + from + " to " + to, x.why(from, 0, to), due);
                }
            }
        }
    }

    private static void level() {
        WaterMen x = new WaterMen();
        for (int i = 0; i < 12; i++) x.table(i, i * i % 50);
        int[] before = new int[12];
        for (int h = 0; h < 12; h++) before[h] = x.flow(30, h);
        check.is("P4 told", x.level(30, 4, before[4]), 1);
        x.level(30, 4, 30 % 50);
        x.level(30, 4, (34 % 12) * (34 % 12) % 50);
        for (int h = 0; h < 12; h++) check.is("P4 the other hours as the table has them", x.flow(30, h), before[h]);
        for (int i = 0; i < 12; i++) x.table(i, 0);
        for (int h = 0; h < 11; h++) check.is("P4 the row stays", x.flow(30, h), before[h]);
        x.level(30, 0, 90);
        x.level(30, 11, -90);
        check.is("P4 into the row, from the table", x.flow(29, 11), 90);
        check.is("P4 out of the row, to the table", x.flow(30, 11), 90);
        check.is("P4 within the row: two are told", x.flow(30, 0), (31 % 12) * (31 % 12) % 50 - 90);
        int[][] bad = {{-1, 0, 0}, {500, 0, 0}, {0, -1, 0}, {0, 12, 0}, {0, 0, 91}, {0, 0, -91}};
        for (int[] b : bad) check.is("P4 bad", x.level(b[0], b[1], b[2]), -1);
        for (int e : Check.edges()) {
            check.is("P4 day edge", x.level(e, 0, 0), -1);
            check.is("P4 hour edge", x.level(0, e, 0), -1);
            if (e < -90 || e > 90) check.is("P4 level edge", x.level(0, 0, e), -1);
        }
        check.is("P4 last day", x.level(499, 11, -90), 1);
        check.is("P4 last day's flow", x.flow(499, 11), 90);
        Check.goToDay(x, 3);
        check.is("P4 a day that is over", x.level(0, 0, 7), 1);
        check.is("P4 its flow", x.flow(0, 0), -7);
    }

    private static void table() {
        WaterMen x = new WaterMen();
        check.is("P5 was 0", x.table(0, 90), 0);
        check.is("P5 was 90", x.table(0, -90), 90);
        check.is("P5 was -90", x.table(0, 3), -90);
        int[][] bad = {{-1, 0}, {12, 0}, {0, 91}, {0, -91}};
        for (int[] b : bad) check.is("P5 bad", x.table(b[0], b[1]), -1000);
        for (int e : Check.edges()) {
            check.is("P5 place edge", x.table(e, 0), -1000);
            if (e < -90 || e > 90) check.is("P5 level edge", x.table(0, e), -1000);
        }
        check.is("P5 bad ones changed nothing", x.table(0, 1), 3);
        check.is("P5 last place", x.table(11, 5), 0);
        check.is("P5 last place was", x.table(11, 5), 5);
    }

    private static void flow() {
        WaterMen x = new WaterMen();
        int[] t = {5, -7, 11, 0, 90, -90, 33, 2, -41, 8, 60, -1};
        for (int i = 0; i < 12; i++) x.table(i, t[i]);
        for (int d = 0; d < 500; d += 13) {
            for (int h = 0; h < 12; h++) {
                int next = h == 11 ? t[(d + 1) % 12] : t[(h + 1 + d) % 12];
                check.is("P6 by the table", x.flow(d, h), next - t[(h + d) % 12]);
            }
        }
        check.is("P6 day 500 by the table", x.flow(499, 11), t[500 % 12] - t[510 % 12]);
        check.is("P6 day 500", x.flow(500, 0), -1000);
        check.is("P6 hour 12", x.flow(0, 12), -1000);
        for (int e : Check.edges()) {
            check.is("P6 day edge", x.flow(e, 0), -1000);
            check.is("P6 hour edge", x.flow(0, e), -1000);
        }
    }

    private static void frost() {
        WaterMen x = new WaterMen();
        x.stairs(0);
        x.stairs(1);
        x.boat(1, 0);
        x.free(0);
        Check.order(x, "fare 0 to 60 is 1;", 0);
        check.is("P7 was none", x.frost(0, 1), 0);
        check.is("P7 why", x.why(0, 0, 1), 1);
        check.is("P7 row", x.row(0, 0, 1, 5), -11);
        check.is("P7 was frost", x.frost(0, 1), 1);
        check.is("P7 no more", x.frost(0, 0), 1);
        check.is("P7 was none again", x.frost(0, 0), 0);
        check.is("P7 why not", x.why(0, 0, 1), 0);
        check.is("P7 last day", x.frost(499, 1), 0);
        check.is("P7 day 500", x.frost(500, 1), -1);
        check.is("P7 is 2", x.frost(0, 2), -1);
        check.is("P7 is -1", x.frost(0, -1), -1);
        for (int e : Check.edges()) check.is("P7 day edge", x.frost(e, 1), -1);
        x.frost(2, 1);
        Check.goTo(x, 2 * 720 - 1);
        check.is("P7 not yet", x.why(0, 0, 1), 0);
        check.is("P7 today", x.frost(1, 0), 0);
        check.is("P7 yesterday", x.frost(0, 0), -1);
        Check.goTo(x, 2 * 720);
        check.is("P7 frost now", x.why(0, 0, 1), 1);
        Check.goTo(x, 3 * 720 - 1);
        check.is("P7 frost still", x.why(0, 0, 1), 1);
        Check.goTo(x, 3 * 720);
        check.is("P7 frost is over", x.why(0, 0, 1), 0);
        check.is("P7 it can't be told any more", x.frost(2, 0), -1);
    }
}
