/** Promises 18 to 22: the tape, orders and their faults, what is in force, fares. */
public final class OrdersTest {
    private static final Check check = new Check();

    public static void main(String[] args) {
        tape();
        bytes();
        goodTexts();
        faults();
        nearlyWords();
        secondLines();
        tooManyRows();
        orders();
        inForce();
        fares();
        rates();
        rateOrder();
        badFares();
        check.end();
    }

    private static void tape() {
        WaterMen x = new WaterMen();
        check.is("P19 empty", x.end(0), 0);
        check.is("P19 more than there is", x.end(1), -1);
        for (int i = 1; i <= 20; i++) check.is("P18 fed", x.feed(0, 0, 0, 0, 0), 20 * i);
        check.is("P18 full", x.feed(0, 0, 0, 0, 0), -3);
        check.is("P33 bytes", x.count(9), 400);
        check.is("P19 all", x.end(400), 400);
        check.is("P19 401", x.end(401), -1);
        check.is("P19 381", x.end(381), 381);
        check.is("P18 full, of 381", x.feed(0, 0, 0, 0, 0), -3);
        check.is("P19 380", x.end(380), 380);
        check.is("P18 up to 400", x.feed(0, 0, 0, 0, 0), 400);
        check.is("P19 -1", x.end(-1), -1);
        for (int e : Check.edges()) check.is("P19 edge", x.end(e), -1);
        check.is("P19 to 0", x.end(0), 0);
        check.is("P33 no bytes", x.count(9), 0);
    }

    private static void bytes() {
        WaterMen x = new WaterMen();
        for (int b = 0; b < 256; b++) {
            Check.feed(x, new byte[] {'h', 'e', 'a', 'd', '1', (byte) b, ';'});
            boolean digit = b >= '0' && b <= '9';
            int due = b == ' ' || digit ? x.count(3) : b == ';' ? -106 : -105;
            if (due >= 0 && due == 20) due = -3;
            check.is("P20 byte " + b, x.order(0), due);
        }
        WaterMen y = new WaterMen();
        y.feed(0x68656164, 0x31323334, 0x353b0000, -1, 0x80808080);
        y.end(10);
        check.is("P18 the highest byte first", y.order(0), 0);
    }

    private static final String[] GOOD = {
        "with 1;", "with1;", "  with  1  ;  ", "with 1 ; against 2 ; sunday 3 ; least 4 ; head 5 ; oars 6 ;",
        "fare1to2is3;", "fare 1to 2is 3;hour1 to2 is3;bridge1to2;", "with 00000;", "with 99999;",
        "fare 9 to 1 is 0;", "hour 99999 to 0 is 99999;", "with 1;with".substring(0, 7), " ".repeat(392) + "least 1;",
        "fare 1 to 2 is 3;fare 1 to 2 is 3;hour 1 to 2 is 3;hour 1 to 2 is 3;",
    };

    private static void goodTexts() {
        WaterMen x = new WaterMen();
        for (int i = 0; i < GOOD.length; i++) {
            check.is("P20 '" + GOOD[i] + "'", Check.order(x, GOOD[i], 0), i);
            check.is("P20 the tape is empty", x.count(9), 0);
        }
    }

    private static void fault(String text, int place) {
        WaterMen x = new WaterMen();
        check.is("P20 '" + text + "'", Check.order(x, text, 0), -100 - place);
        check.is("P20 the tape is empty behind a fault", x.count(9), 0);
        check.is("P20 no order", x.count(3), 0);
    }

    private static void faults() {
        fault("", 0);
        fault("     ", 5);
        fault(";", 0);
        fault("  ;", 2);
        fault("with", 4);
        fault("with  ", 6);
        fault("with 5", 6);
        fault("with 5  ", 8);
        fault("wit 5;", 0);
        fault("withal 5;", 0);
        fault("With 5;", 0);
        fault("w", 0);
        fault(" fares 1", 1);
        fault("to 5;", 0);
        fault("is 5;", 0);
        fault("5;", 0);
        fault("with;", 4);
        fault("with with 5;", 5);
        fault("with 5 5;", 7);
        fault("with 5 to 6;", 7);
        fault("with 123456;", 5);
        fault("with 000001;", 5);
        fault("with 123456", 5);
        fault("with 5;;", 7);
        fault("with 5; ;", 8);
        fault("with 5; x", 8);
        fault("with 5;agains", 7);
        fault("with -5;", 5);
        fault("with 5.;", 6);
        fault("with 5;\n", 7);
        fault("with\t5;", 4);
        fault("fare", 4);
        fault("fare 1", 6);
        fault("fare 1;", 6);
        fault("fare 1 to", 9);
        fault("fare 1 t", 7);
        fault("fare 1 too 2 is 3;", 7);
        fault("fare 1 is 2;", 7);
        fault("fare 1 to 2;", 11);
        fault("fare 1 to 2 i", 12);
        fault("fare 1 to 2 to 3;", 12);
        fault("fare 1 to 2 is;", 14);
        fault("fare 1 to 2 is 3", 16);
        fault("fare 1 to 2 is 3 4;", 17);
        fault("fare 1 2 is 3;", 7);
        fault("fare to 2 is 3;", 5);
        fault("fare 1 to 222222 is 3;", 10);
        fault("fare 1 to 2 is 333333;", 15);
        fault("hour 1 to 2;", 11);
        fault("bridge 1;", 8);
        fault("bridge 1 to 2 is 3;", 14);
        fault("bridge 1 to 2", 13);
        fault("fa re 1 to 2 is 3;", 0);
        fault("fare 1 t o 2 is 3;", 7);
        fault("fare 1 to 2 is 3;fare 1 to 2 is ;", 32);
        fault("least " + "1".repeat(394), 6);
        fault("l".repeat(400), 0);
        fault("fare 1 to 2 is 3; " + (char) 233, 18);
        fault("fare 1 to 2 is 3" + (char) 160 + ";", 16);
        fault("fare 1 to 2 is 3" + (char) 0 + ";", 16);
    }

    /** Every letter of every word counts, and a word is judged whole. */
    private static void nearlyWords() {
        for (String word : "fare hour with against sunday least bridge head oars".split(" ")) {
            for (int i = 0; i < word.length(); i++) {
                char other = word.charAt(i) == 'z' ? 'a' : 'z';
                fault(" " + word.substring(0, i) + other + word.substring(i + 1) + " 1", 1);
            }
            fault(word + "z 1", 0);
            fault(word + "a 1", 0);
            fault(word + "{1", word.length());
            fault(word + "`1", word.length());
            fault(word + "/1", word.length());
            fault(word + ":1", word.length());
        }
        for (String word : new String[] {"bo", "tp", "t", "toz", "is"}) fault("bridge 1 " + word + " 2;", 9);
        for (String word : new String[] {"as", "it", "i", "isa", "to"}) fault("hour 1 to 2 " + word + " 3;", 12);
    }

    private static void secondLines() {
        String[] once = {"with 1;", "against 1;", "sunday 1;", "least 1;", "bridge 1 to 2;", "head 1;", "oars 1;"};
        for (String line : once) {
            fault(line + line, line.length());
            fault(line + "  " + line, line.length() + 2);
            fault(line + "fare 1 to 2 is 3;" + line, line.length() + 17);
            fault(line + line.substring(0, 4), line.length());
            String zero = line.replace('1', '0');
            fault(zero + zero, line.length());
        }
        fault("with 1;with x", 7);
        fault("with 1;with", 7);
        WaterMen x = new WaterMen();
        check.is("P20 a fault", Check.order(x, "with 1;least 7;with 1;", 0), -115);
        check.is("P20 nothing of it stays", Check.order(x, "with 1;fare 0 to 60 is 3;", 0), 0);
        x.stairs(0);
        x.stairs(1);
        check.is("P22 no least of the faulty text", x.fare(0, 0, 1, 0, 1), 3);
    }

    private static void tooManyRows() {
        for (String word : new String[] {"fare", "hour"}) {
            String line = word + " 1 to 2 is 3;";
            String twelve = line.repeat(12);
            WaterMen x = new WaterMen();
            check.is("P20 twelve", Check.order(x, twelve, 0), 0);
            fault(twelve + line, twelve.length());
            fault(twelve + " " + word, twelve.length() + 1);
            fault(twelve + " " + word + "s", twelve.length() + 1);
        }
        WaterMen x = new WaterMen();
        String both = "fare1to2is3;hour1to2is3;".repeat(12);
        check.is("P20 twelve of both", Check.order(x, both, 0), 0);
    }

    private static void orders() {
        WaterMen x = new WaterMen();
        Check.feed(x, "with 1;");
        check.is("P20 day 500", x.order(500), -1);
        for (int e : Check.edges()) check.is("P20 day edge", x.order(e), -1);
        check.is("P20 bad keeps the tape", x.count(9), 7);
        Check.goToDay(x, 5);
        check.is("P20 a day that is over", x.order(0), 0);
        for (int i = 1; i < 20; i++) check.is("P20 order", Check.order(x, "with 1;", 499), i);
        check.is("P20 full", Check.order(x, "with 1;", 0), -3);
        check.is("P20 full keeps the tape", x.count(9), 7);
        check.is("P20 bad ahead of full", x.order(500), -1);
        x.end(3);
        check.is("P20 full ahead of a fault", x.order(0), -3);
        check.is("P33 orders", x.count(3), 20);
    }

    private static void inForce() {
        WaterMen x = new WaterMen();
        check.is("P21 none", x.inForce(0, 0), -2);
        Check.order(x, "with 1;", 10);
        check.is("P21 not yet", x.inForce(9, 0), -2);
        check.is("P21 from its day on", x.inForce(10, 0), 0);
        check.is("P21 last", x.inForce(499, 499), 0);
        Check.goToDay(x, 3);
        Check.order(x, "with 1;", 8);
        check.is("P21 the one made last", x.inForce(10, 3), 1);
        check.is("P21 as known ahead of it", x.inForce(10, 2), 0);
        check.is("P21 as known ahead of it, none", x.inForce(8, 2), -2);
        check.is("P21 its day", x.inForce(8, 3), 1);
        Check.goToDay(x, 20);
        Check.order(x, "with 1;", 0);
        check.is("P21 looking back", x.inForce(0, 20), 2);
        check.is("P21 as known", x.inForce(0, 19), -2);
        check.is("P21 as known in days to come", x.inForce(0, 499), 2);
        Check.order(x, "with 1;", 30);
        check.is("P21 two of one day", x.inForce(30, 20), 3);
        check.is("P21 two of one day, earlier", x.inForce(29, 20), 2);
        check.is("P21 day 500", x.inForce(500, 0), -1);
        check.is("P21 known on day 500", x.inForce(0, 500), -1);
        for (int e : Check.edges()) {
            check.is("P21 day edge", x.inForce(e, 0), -1);
            check.is("P21 known edge", x.inForce(0, e), -1);
        }
    }

    private static void fares() {
        WaterMen x = new WaterMen();
        x.stairs(2);
        x.stairs(5);
        x.stairs(9);
        x.stairs(60);
        Check.order(x, "fare 4 to 4 is 44; fare 3 to 7 is 37; fare 5 to 1 is 51; fare 5 to 7 is 57; fare 8 to 57 is 0;", 0);
        check.is("P22 3 miles", x.fare(0, 0, 1, 20, 1), 37);
        check.is("P22 the first line", x.fare(0, 1, 2, 20, 1), 44);
        check.is("P22 the other way", x.fare(0, 2, 1, 20, 1), 44);
        check.is("P22 7 miles", x.fare(0, 0, 2, 20, 1), 37);
        check.is("P22 0 coins are a fare", x.fare(0, 2, 3, 20, 1), 0);
        check.is("P22 58 miles: none", x.fare(0, 0, 3, 20, 1), -2);
        Check.order(x, "with 100; least 5;", 0);
        check.is("P22 no fare line, none in spite of least", x.fare(1, 0, 1, 20, 1), -2);
        Check.order(x, "fare 0 to 60 is 3; least 5;", 0);
        check.is("P22 at least", x.fare(2, 0, 1, 20, 1), 5);
        Check.order(x, "fare 0 to 60 is 6; least 5;", 0);
        check.is("P22 above the least", x.fare(3, 0, 1, 20, 1), 6);
    }

    private static void rates() {
        WaterMen x = new WaterMen();
        x.stairs(0);
        x.stairs(5);
        x.table(1, 10);
        Check.order(x, "fare 0 to 60 is 1003; with 50; against 200;", 0);
        check.is("P22 with, up", x.fare(0, 0, 1, 0, 1), 501);
        check.is("P22 against, down", x.fare(0, 1, 0, 0, 1), 2006);
        check.is("P22 against, up", x.fare(0, 0, 1, 1, 1), 2006);
        check.is("P22 with, down", x.fare(0, 1, 0, 1, 1), 501);
        check.is("P22 the water stands", x.fare(0, 0, 1, 2, 1), 1003);
        check.is("P22 into the next day, where the table has moved", x.fare(0, 0, 1, 11, 1), 501);
        check.is("P22 the next day's first hour", x.fare(0, 0, 1, 12, 1), 2006);
        Check.order(x, "fare 0 to 60 is 999; hour 2 to 4 is 50; hour 4 to 4 is 33; hour 6 to 5 is 0;", 0);
        int[] byHour = {999, 999, 499, 499, 164, 999, 999, 999, 999, 999, 999, 999};
        for (int h = 0; h < 12; h++) check.is("P22 hour " + h, x.fare(1, 0, 1, h, 1), byHour[h]);
        for (int h = 0; h < 12; h++) check.is("P22 hour of day 3 " + h, x.fare(1, 0, 1, 36 + h, 1), byHour[h]);
        Check.order(x, "fare 0 to 60 is 99; sunday 150; oars 151;", 0);
        for (int d = 0; d < 500; d++) {
            int due = d % 7 == 0 ? 148 : 99;
            check.is("P22 sunday, day " + d, x.fare(2, 0, 1, 12 * d + d % 12, 1), due);
            check.is("P22 two oars, day " + d, x.fare(2, 0, 1, 12 * d + 5, 2), due * 151 / 100);
        }
        Check.order(x, "fare 0 to 60 is 99999; with 99999; against 99999; sunday 50; oars 99999; hour 0 to 11 is 99999;", 0);
        check.is("P22 a million at most, each time", x.fare(3, 0, 1, 0, 1), 500000);
        check.is("P22 a million at most", x.fare(3, 0, 1, 0, 2), 1000000);
        Check.order(x, "fare 0 to 60 is 99999; with 0; least 99999;", 0);
        check.is("P22 the least", x.fare(4, 0, 1, 0, 1), 99999);
    }

    /** Each rate cuts the rest away or at a million, so another order of the rates would answer otherwise. */
    private static void rateOrder() {
        WaterMen x = new WaterMen();
        x.stairs(0);
        x.stairs(5);
        x.table(1, 10);
        Check.order(x, "oars 3300; sunday 70; hour 0 to 5 is 33; hour 0 to 0 is 3100; with 170; fare 1 to 9 is 7;", 0);
        int due = 7 * 170 / 100;
        due = due * 33 / 100;
        due = due * 3100 / 100;
        due = due * 70 / 100;
        due = due * 3300 / 100;
        check.is("P22 the rates' order", x.fare(0, 0, 1, 0, 2), due);
        Check.order(x, "oars 3300; sunday 70; hour 0 to 0 is 3100; hour 0 to 5 is 33; with 170; fare 1 to 9 is 7;", 0);
        due = 7 * 170 / 100;
        due = due * 3100 / 100;
        due = due * 33 / 100;
        due = due * 70 / 100;
        due = due * 3300 / 100;
        check.is("P22 the hour lines' order", x.fare(1, 0, 1, 0, 2), due);
    }

    private static void badFares() {
        WaterMen x = new WaterMen();
        check.is("P22 no order", x.fare(0, 0, 1, 0, 1), -1);
        x.stairs(0);
        x.stairs(5);
        Check.order(x, "fare 0 to 60 is 1;", 0);
        check.is("P22 good", x.fare(0, 0, 1, 0, 1), 1);
        check.is("P22 last hour", x.fare(0, 0, 1, 5999, 2), 1);
        int[][] bad = {{1, 0, 1, 0, 1}, {0, 2, 1, 0, 1}, {0, 0, 2, 0, 1}, {0, 0, 0, 0, 1}, {0, 1, 1, 0, 1},
            {0, 0, 1, 6000, 1}, {0, 0, 1, -1, 1}, {0, 0, 1, 0, 0}, {0, 0, 1, 0, 3}};
        for (int[] b : bad) check.is("P22 bad", x.fare(b[0], b[1], b[2], b[3], b[4]), -1);
        for (int e : Check.edges()) {
            for (int i = 0; i < 5; i++) {
                int[] b = {0, 0, 1, 0, 1};
                b[i] = e;
                check.is("P22 edge", x.fare(b[0], b[1], b[2], b[3], b[4]), -1);
            }
        }
        Check.order(x, "fare 6 to 60 is 1;", 0);
        check.is("P22 none", x.fare(1, 0, 1, 0, 1), -2);
        check.is("P22 bad ahead of not", x.fare(1, 0, 1, 0, 3), -1);
    }
}
