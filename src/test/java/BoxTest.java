/** Promises 30 to 34: pensions, what is foretold, counts and coins. */
public final class BoxTest {
    private static final Check check = new Check();

    public static void main(String[] args) {
        pensions();
        paying();
        ends();
        payingBehindASunday();
        foretold();
        foretoldWindow();
        foretoldPot();
        counts();
        check.end();
    }

    private static WaterMen rich() {
        WaterMen x = new WaterMen();
        x.stairs(0);
        x.stairs(1);
        x.boat(1, 0);
        x.free(0);
        Check.order(x, "fare 0 to 60 is 1;", 0);
        return x;
    }

    /** The boat goes to the other stairs, so that the box has this much more. */
    private static void fill(WaterMen x, int coins) {
        x.row(0, 0, 1 - x.craft(0, 0), coins * 20);
    }

    private static void pensions() {
        WaterMen x = new WaterMen();
        check.is("P30 none of 0 coins", x.pension(0, 5), -1);
        check.is("P30 too many", x.pension(10001, 5), -1);
        check.is("P30 end -1", x.pension(5, -1), -1);
        check.is("P30 end 10000", x.pension(5, 10000), -1);
        for (int e : Check.edges()) {
            check.is("P30 coins edge", x.pension(e, 5), -1);
            check.is("P30 end edge", x.pension(5, e), -1);
            check.is("P32 edge", x.pensioner(e, 0), -1);
        }
        check.is("P30 first", x.pension(1, 0), 0);
        check.is("P30 second", x.pension(10000, 9999), 1);
        for (int i = 2; i < 30; i++) check.is("P30 next", x.pension(i, i), i);
        check.is("P30 full", x.pension(1, 1), -3);
        check.is("P30 bad ahead of full", x.pension(0, 1), -1);
        check.is("P32 pension", x.pensioner(1, 0), 10000);
        check.is("P32 end", x.pensioner(1, 1), 9999);
        check.is("P32 got", x.pensioner(1, 2), 0);
        check.is("P32 what 3", x.pensioner(1, 3), -1);
        check.is("P32 no such", x.pensioner(30, 0), -1);
        for (int e : Check.edges()) check.is("P32 what edge", x.pensioner(0, e), -1);
        check.is("P33 pensioners", x.count(8), 30);
    }

    private static void paying() {
        WaterMen x = rich();
        x.minutes(720);
        fill(x, 100);
        x.pension(60, 9999);
        x.pension(50, 9999);
        x.pension(40, 9999);
        x.pension(1, 9999);
        Check.goTo(x, 100 * 720 - 1);
        check.is("P34 nothing ahead of day 100", x.coins(4), 0);
        Check.goTo(x, 100 * 720);
        check.is("P32 the first", x.pensioner(0, 2), 60);
        check.is("P32 not whole: nothing", x.pensioner(1, 2), 0);
        check.is("P32 a later one that can be paid", x.pensioner(2, 2), 40);
        check.is("P32 nothing is left", x.pensioner(3, 2), 0);
        check.is("P34 box", x.coins(0), 0);
        check.is("P34 pensions", x.coins(4), 100);
        Check.goTo(x, 199 * 720);
        fill(x, 111);
        x.minutes(1440);
        check.is("P32 the first again", x.pensioner(0, 2), 120);
        check.is("P32 the second", x.pensioner(1, 2), 50);
        check.is("P32 the third not again", x.pensioner(2, 2), 40);
        check.is("P32 the fourth", x.pensioner(3, 2), 1);
        check.is("P34 pensions", x.coins(4), 211);
        Check.goTo(x, 300 * 720);
        check.is("P34 none without coins", x.coins(4), 211);
    }

    private static void ends() {
        WaterMen x = rich();
        x.minutes(720);
        fill(x, 1000);
        x.pension(1, 100);
        x.pension(2, 101);
        x.pension(4, 0);
        x.pension(8, 201);
        x.pension(16, 200);
        Check.goToDay(x, 100);
        check.is("P34 paid on day 100", x.coins(4), 2 + 8 + 16);
        x.pension(32, 9999);
        check.is("P34 one that comes on the day gets nothing yet", x.coins(4), 26);
        Check.goToDay(x, 200);
        check.is("P34 paid on day 200", x.coins(4), 26 + 8 + 32);
        check.is("P32 got", x.pensioner(3, 2), 16);
        Check.goToDay(x, 400);
        check.is("P34 paid up to day 400", x.coins(4), 26 + 8 + 3 * 32);
    }

    /** DAY 399 is a SUNDAY: what is left of its pot is there when DAY 400 begins. */
    private static void payingBehindASunday() {
        WaterMen x = rich();
        x.free(1);
        x.boat(1, 0);
        Check.goToDay(x, 399);
        x.row(0, 0, 1, 19);
        x.row(1, 1, 1, 0);
        x.pension(1, 9999);
        check.is("P34 nothing in the box", x.coins(0), 0);
        Check.goToDay(x, 400);
        check.is("P32 paid of what was left over", x.pensioner(0, 2), 1);
        check.is("P34 box", x.coins(0), 0);
        check.is("P34 men's", x.coins(2), 18);
    }

    private static void foretold() {
        WaterMen x = rich();
        check.is("P31 no pensioners", x.foretold(), -2);
        x.pension(5, 100);
        check.is("P31 one that ends on day 100", x.foretold(), -2);
        x.pension(5, 101);
        check.is("P31 nothing in the box", x.foretold(), 100);
        x.minutes(720);
        fill(x, 5);
        check.is("P31 paid with ease", x.foretold(), -2);
        x.pension(20, 9999);
        check.is("P31 10 for 25", x.foretold(), 100);
        Check.goToDay(x, 50);
        fill(x, 10);
        check.is("P31 30 - 25, 20 - 20, 15", x.foretold(), 300);
        Check.goToDay(x, 100);
        check.is("P34 the second is paid, the third is not", x.coins(0), 10);
        check.is("P31 from day 200 on: 25 - 20, 20 - 20, 15", x.foretold(), 400);

        WaterMen y = rich();
        y.minutes(720);
        fill(y, 4000);
        y.pension(4100, 9999);
        check.is("P31 4000 - 100n not below 0 up to n = 40", y.foretold(), -2);
        y.pension(98, 9999);
        check.is("P31 4000 - 198n below 0 at n = 21", y.foretold(), 2100);
        y.pension(1, 2000);
        check.is("P31 one less coin each time, up to its end", y.foretold(), 2100);
    }

    private static void foretoldWindow() {
        WaterMen x = rich();
        Check.goToDay(x, 1);
        fill(x, 50);
        x.pension(40, 9999);
        x.pension(20, 9999);
        check.is("P31 100 - 60, 90 - 60, .. 60 - 60, 50", x.foretold(), 600);
        Check.goToDay(x, 100);
        check.is("P34 the box", x.coins(0), 10);
        check.is("P31 day 1 is 99 days ago: 60 - 60, 50", x.foretold(), 300);
        Check.goToDay(x, 101);
        check.is("P31 100 days ago it counts still", x.foretold(), 300);
        Check.goToDay(x, 102);
        check.is("P31 101 days ago no more", x.foretold(), 200);

        WaterMen y = rich();
        y.minutes(720);
        y.pension(10, 9999);
        fill(y, 5);
        check.is("P31 today's counts", y.foretold(), 200);
        WaterMen z = rich();
        z.minutes(720);
        fill(z, 98);
        z.pension(100, 9999);
        check.is("P31 98 - 2n not below 0 up to n = 40", z.foretold(), -2);
        z.pension(1, 9999);
        check.is("P31 98 - 3n below 0 at n = 33", z.foretold(), 3300);
        WaterMen w = rich();
        w.minutes(720);
        fill(w, 39);
        w.pension(40, 9999);
        check.is("P31 39 - n below 0 at n = 40, the last of these", w.foretold(), 4000);
        WaterMen v = rich();
        v.minutes(720);
        fill(v, 40);
        v.pension(41, 9999);
        check.is("P31 40 - n below 0 at n = 41, none of these", v.foretold(), -2);
        WaterMen u = rich();
        Check.goToDay(u, 499);
        fill(u, 39);
        u.pension(40, 9999);
        check.is("P31 beyond the end of time", u.foretold(), 4400);
    }

    private static void foretoldPot() {
        WaterMen x = rich();
        x.free(1);
        x.boat(1, 0);
        x.pension(1, 9999);
        x.row(0, 0, 1, 19);
        x.row(1, 1, 1, 0);
        check.is("P31 the pot is not parted yet", x.foretold(), 100);
        Check.goToDay(x, 1);
        check.is("P31 what was left over counts", x.foretold(), -2);
        Check.goToDay(x, 100);
        check.is("P31 on its Sunday: day 0, 100 days ago", x.foretold(), -2);
        Check.goToDay(x, 101);
        check.is("P31 on its Sunday: day 0, 101 days ago", x.foretold(), 200);
    }

    private static void counts() {
        WaterMen x = rich();
        x.bind(3, 0);
        x.bind(4, 0);
        x.free(5);
        x.minutes(725);
        fill(x, 3);
        x.feed(0, 0, 0, 0, 0);
        x.pension(1, 1);
        int[] due = {2, 1, 1, 1, 725, 2, 2, 0, 1, 20};
        for (int i = 0; i < 10; i++) check.is("P33 what " + i, x.count(i), due[i]);
        check.is("P33 what 10", x.count(10), -1);
        check.is("P33 what -1", x.count(-1), -1);
        int[] coins = {3, 0, 57, 60, 0};
        for (int i = 0; i < 5; i++) check.is("P34 what " + i, x.coins(i), coins[i]);
        check.is("P34 what 5", x.coins(5), -1);
        for (int e : Check.edges()) {
            check.is("P33 edge", x.count(e), -1);
            check.is("P34 edge", x.coins(e), -1);
        }
        x.sink(0, 9, 9);
        check.is("P33 dead", x.count(7), 1);
        check.is("P33 free", x.count(5), 1);
        check.is("P33 pensioners", x.count(8), 2);
    }
}
