/** Promises 8 to 17: men, apprentices, boats, turns. */
public final class MenTest {
    private static final Check check = new Check();

    public static void main(String[] args) {
        free();
        bind();
        gaps();
        manyGaps();
        passing();
        man();
        boats();
        crafts();
        turns();
        check.end();
    }

    private static void free() {
        WaterMen x = new WaterMen();
        check.is("P8 free", x.free(0), 1);
        check.is("P8 is free", x.man(0, 0), 2);
        check.is("P8 free already", x.free(0), -2);
        check.is("P8 last", x.free(39), 1);
        check.is("P8 no such", x.free(40), -1);
        for (int e : Check.edges()) check.is("P8 edge", x.free(e), -1);
        x.bind(1, 0);
        check.is("P8 bound", x.free(1), -2);
        check.is("P8 count", x.count(5), 2);
    }

    private static void bind() {
        WaterMen x = new WaterMen();
        check.is("P9 master is nobody", x.bind(0, 1), -2);
        check.is("P9 to himself", x.bind(0, 0), -2);
        x.free(1);
        check.is("P9 bound", x.bind(0, 1), 1);
        check.is("P9 is bound", x.man(0, 0), 1);
        check.is("P9 his master", x.man(0, 1), 1);
        check.is("P9 bound already", x.bind(0, 1), -2);
        check.is("P9 master is bound", x.bind(2, 0), -2);
        check.is("P9 a free man", x.bind(1, 1), -2);
        check.is("P9 no such man", x.bind(40, 1), -1);
        check.is("P9 no such master", x.bind(2, 40), -1);
        check.is("P9 bad ahead of not", x.bind(0, -1), -1);
        for (int e : Check.edges()) {
            check.is("P9 man edge", x.bind(e, 1), -1);
            check.is("P9 master edge", x.bind(3, e), -1);
        }
        check.is("P9 count", x.count(6), 1);
    }

    private static void gaps() {
        WaterMen x = new WaterMen();
        x.free(0);
        Check.goToDay(x, 10);
        x.bind(1, 0);
        check.is("P11 none yet", x.served(1), 0);
        Check.goToDay(x, 30);
        check.is("P11 twenty", x.served(1), 20);
        check.is("P10 ahead of when he was bound", x.absent(1, 9, 12), -1);
        check.is("P10 behind today", x.absent(1, 20, 31), -1);
        check.is("P10 turned round", x.absent(1, 13, 12), -1);
        check.is("P10 negative", x.absent(1, -1, 12), -1);
        check.is("P10 no such man", x.absent(40, 12, 12), -1);
        for (int e : Check.edges()) {
            check.is("P10 man edge", x.absent(e, 12, 12), -1);
            check.is("P10 a edge", x.absent(1, e, 12), -1);
            check.is("P10 b edge", x.absent(1, 12, e), -1);
        }
        check.is("P10 free man", x.absent(0, 12, 12), -2);
        check.is("P10 nobody", x.absent(2, 12, 12), -2);
        check.is("P10 bad ahead of not", x.absent(2, 12, 11), -1);
        check.is("P10 bad ahead of not, behind today", x.absent(0, 12, 31), -1);
        check.is("P10 the first days", x.absent(1, 10, 11), 1);
        check.is("P11 less two", x.served(1), 18);
        check.is("P10 today too", x.absent(1, 28, 30), 2);
        check.is("P11 today is not counted", x.served(1), 16);
        check.is("P10 beside, behind", x.absent(1, 12, 13), -2);
        check.is("P10 beside, ahead", x.absent(1, 26, 27), -2);
        check.is("P10 it holds another", x.absent(1, 10, 30), -2);
        check.is("P10 in another", x.absent(1, 29, 29), -2);
        check.is("P10 one day between", x.absent(1, 13, 13), 3);
        check.is("P10 between two", x.absent(1, 12, 12), -2);
        check.is("P11 less one more", x.served(1), 15);
        Check.goToDay(x, 31);
        check.is("P11 the gap's last day is past", x.served(1), 15);
        Check.goToDay(x, 32);
        check.is("P11 one more", x.served(1), 16);
        check.is("P11 free", x.served(0), -2);
        check.is("P11 nobody", x.served(2), -2);
        check.is("P11 no such", x.served(40), -1);
        for (int e : Check.edges()) check.is("P11 edge", x.served(e), -1);
    }

    private static void manyGaps() {
        WaterMen x = new WaterMen();
        x.free(0);
        x.bind(1, 0);
        Check.goToDay(x, 40);
        for (int i = 0; i < 6; i++) check.is("P10 gap", x.absent(1, 20 - 2 * i, 20 - 2 * i), i + 1);
        check.is("P10 full", x.absent(1, 30, 31), -3);
        check.is("P10 not ahead of full", x.absent(1, 20, 31), -2);
        check.is("P10 bad ahead of full", x.absent(1, 30, 41), -1);
        check.is("P11 less six", x.served(1), 34);
    }

    private static void passing() {
        WaterMen x = new WaterMen();
        x.free(0);
        x.bind(1, 0);
        x.bind(2, 0);
        check.is("P12 lacks all", x.pass(1), -400);
        check.is("P12 free", x.pass(0), -2);
        check.is("P12 nobody", x.pass(3), -2);
        check.is("P12 no such", x.pass(40), -1);
        for (int e : Check.edges()) check.is("P12 edge", x.pass(e), -1);
        x.absent(2, 0, 0);
        Check.goTo(x, 300 * 720 - 1);
        check.is("P12 lacks one", x.pass(1), -101);
        check.is("P12 still bound", x.man(1, 0), 1);
        Check.goToDay(x, 300);
        check.is("P12 lacks one for his gap", x.pass(2), -101);
        check.is("P12 passes", x.pass(1), 1);
        check.is("P12 is free", x.man(1, 0), 2);
        check.is("P12 no master", x.man(1, 1), -1);
        check.is("P12 again", x.pass(1), -2);
        check.is("P11 free now", x.served(1), -2);
        check.is("P10 free now", x.absent(1, 299, 299), -2);
        check.is("P9 he may be a master", x.bind(4, 1), 1);
        Check.goToDay(x, 301);
        check.is("P12 the other passes", x.pass(2), 1);
        check.is("P33 free men", x.count(5), 3);
        check.is("P33 bound men", x.count(6), 1);
    }

    private static void man() {
        WaterMen x = new WaterMen();
        x.stairs(0);
        x.stairs(6);
        x.boat(1, 0);
        x.free(7);
        x.free(8);
        x.bind(9, 7);
        Check.order(x, "fare 0 to 60 is 1;", 0);
        Check.goToDay(x, 1);
        x.join(1, 8);
        x.join(1, 7);
        check.is("P13 turns at", x.man(7, 2), 1);
        check.is("P13 place", x.man(7, 3), 1);
        x.row(0, 7, 1, 100);
        check.is("P13 on a way", x.man(7, 5), 1);
        check.is("P13 coins", x.man(7, 4), 95);
        check.is("P13 trips", x.man(7, 6), 1);
        check.is("P13 no turns", x.man(7, 2), -1);
        check.is("P13 no place", x.man(7, 3), -1);
        Check.goTo(x, 720 + 59);
        check.is("P13 still on a way", x.man(7, 5), 1);
        Check.goTo(x, 720 + 60);
        check.is("P13 there", x.man(7, 5), 0);
        check.is("P13 bound", x.man(9, 0), 1);
        check.is("P13 master", x.man(9, 1), 7);
        check.is("P13 what 7", x.man(7, 7), -2);
        check.is("P13 what -1", x.man(7, -1), -2);
        check.is("P13 no such", x.man(40, 0), -2);
        for (int e : Check.edges()) {
            check.is("P13 man edge", x.man(e, 0), -2);
            check.is("P13 what edge", x.man(0, e), -2);
        }
        x.leave(8);
        x.row(0, 7, 0, 100);
        x.sink(0, 1, 1);
        check.is("P13 dead", x.man(7, 0), 3);
        check.is("P13 dead, not on a way", x.man(7, 5), 0);
        check.is("P13 dead, coins stay", x.man(7, 4), 190);
        check.is("P13 dead, trips stay", x.man(7, 6), 2);
        check.is("P13 the master's death is nothing to him", x.man(9, 0), 1);
        check.is("P13 his master still", x.man(9, 1), 7);
        check.is("P8 dead", x.free(7), -2);
        check.is("P9 dead master", x.bind(10, 7), -2);
        check.is("P9 dead man", x.bind(7, 8), -2);
        check.is("P16 dead", x.join(0, 7), -2);
        check.is("P12 dead", x.pass(7), -2);
    }

    private static void boats() {
        WaterMen x = new WaterMen();
        check.is("P14 no stairs", x.boat(1, 0), -1);
        x.stairs(3);
        check.is("P14 no oars", x.boat(0, 0), -1);
        check.is("P14 three oars", x.boat(3, 0), -1);
        check.is("P14 no such stairs", x.boat(1, 1), -1);
        for (int e : Check.edges()) {
            check.is("P14 oars edge", x.boat(e, 0), -1);
            check.is("P14 stairs edge", x.boat(1, e), -1);
        }
        for (int i = 0; i < 20; i++) check.is("P14 boat", x.boat(1 + i % 2, 0), i);
        check.is("P14 full", x.boat(1, 0), -3);
        check.is("P14 bad ahead of full", x.boat(1, 1), -1);
        check.is("P14 count", x.count(1), 20);
    }

    private static void crafts() {
        WaterMen x = new WaterMen();
        x.stairs(0);
        x.stairs(6);
        x.free(5);
        Check.order(x, "fare 0 to 60 is 1;", 0);
        Check.goTo(x, 100);
        x.boat(2, 1);
        int[] first = {1, 2, 0, -1, 0};
        for (int i = 0; i < 5; i++) check.is("P15 at first " + i, x.craft(0, i), first[i]);
        x.row(0, 5, 0, 1);
        int[] onWay = {0, 2, 140, 5, 1};
        for (int i = 0; i < 5; i++) check.is("P15 on a way " + i, x.craft(0, i), onWay[i]);
        Check.goTo(x, 139);
        check.is("P15 still on a way", x.craft(0, 4), 1);
        Check.goTo(x, 140);
        int[] there = {0, 2, 140, -1, 0};
        for (int i = 0; i < 5; i++) check.is("P15 there " + i, x.craft(0, i), there[i]);
        x.row(0, 5, 1, 1);
        x.sink(0, 1, 1);
        check.is("P15 sunk", x.craft(0, 4), 2);
        check.is("P15 sunk has no man", x.craft(0, 3), -1);
        check.is("P15 sunk has oars", x.craft(0, 1), 2);
        Check.goToDay(x, 2);
        check.is("P15 sunk for good", x.craft(0, 4), 2);
        check.is("P15 what 5", x.craft(0, 5), -1);
        check.is("P15 no such", x.craft(1, 1), -1);
        for (int e : Check.edges()) {
            check.is("P15 boat edge", x.craft(e, 1), -1);
            check.is("P15 what edge", x.craft(0, e), -1);
        }
    }

    private static void turns() {
        WaterMen x = new WaterMen();
        x.stairs(0);
        x.stairs(6);
        x.boat(1, 0);
        for (int i = 0; i < 39; i++) x.free(i);
        x.bind(39, 0);
        Check.order(x, "fare 0 to 60 is 1;", 0);
        check.is("P16 no such stairs", x.join(2, 0), -1);
        check.is("P16 no such man", x.join(0, 40), -1);
        for (int e : Check.edges()) {
            check.is("P16 stairs edge", x.join(e, 0), -1);
            check.is("P16 man edge", x.join(0, e), -1);
            check.is("P17 edge", x.leave(e), -1);
        }
        check.is("P16 bound", x.join(0, 39), -2);
        check.is("P17 in no row", x.leave(0), -2);
        for (int i = 0; i < 39; i++) check.is("P16 joins", x.join(0, 38 - i), i + 1);
        check.is("P16 in a row", x.join(0, 5), -2);
        check.is("P16 in another row", x.join(1, 5), -2);
        check.is("P16 bad ahead of not", x.join(2, 5), -1);
        check.is("P13 the last one's place", x.man(0, 3), 38);
        check.is("P17 leaves", x.leave(30), 1);
        check.is("P17 again", x.leave(30), -2);
        check.is("P13 those behind move up", x.man(0, 3), 37);
        check.is("P13 those ahead stay", x.man(38, 3), 0);
        check.is("P16 he comes at the end", x.join(0, 30), 39);
        check.is("P13 his place", x.man(30, 3), 38);
        check.is("P23 not the first", x.why(0, 37, 1), 4);
        check.is("P24 the first", x.row(0, 38, 1, 0), 0);
        check.is("P16 on a way", x.join(1, 38), -2);
        check.is("P13 the next is first", x.man(37, 3), 0);
        check.is("P17 a bound man", x.leave(39), -2);
        check.is("P17 no such", x.leave(40), -1);
        Check.goTo(x, 60);
        check.is("P16 there again", x.join(1, 38), 1);
    }
}
