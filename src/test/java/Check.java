import java.nio.charset.StandardCharsets;

/** What the tests share: counting wrong answers, feeding texts, letting time go by. */
final class Check {
    private static final int MOST_TOLD = 40;
    private int asked;
    private int wrong;

    void is(String what, long got, long want) {
        asked++;
        if (got != want) {
            wrong++;
            if (wrong <= MOST_TOLD) System.out.println(what + " answered " + got + ", due is " + want);
        }
    }

    void holds(String what, boolean is) {
        is(what, is ? 1 : 0, 1);
    }

    void end() {
        System.out.println(asked + " answers, " + wrong + " wrong");
        if (wrong != 0) {
            System.exit(1);
        }
    }

    /** THE TAPE becomes this text; it must have been empty. */
    static void feed(WaterMen x, String text) {
        feed(x, text.getBytes(StandardCharsets.ISO_8859_1));
    }

    static void feed(WaterMen x, byte[] text) {
        for (int i = 0; i < text.length; i += 20) {
            x.feed(four(text, i), four(text, i + 4), four(text, i + 8), four(text, i + 12), four(text, i + 16));
        }
        x.end(text.length);
    }

    static int four(byte[] text, int from) {
        int all = 0;
        for (int i = from; i < from + 4; i++) {
            all = all << 8 | (i < text.length ? text[i] & 255 : 32);
        }
        return all;
    }

    static int order(WaterMen x, String text, int from) {
        feed(x, text);
        return x.order(from);
    }

    static void goTo(WaterMen x, int time) {
        while (x.count(4) < time) {
            // A river whose time stands still must not hold the test for ever.
            if (x.minutes(Math.min(1440, time - x.count(4))) <= 0) return;
        }
    }

    static void goToDay(WaterMen x, int day) {
        goTo(x, day * 720);
    }

    /** All that can be asked of an object. */
    static String stateOf(WaterMen x) {
        StringBuilder s = new StringBuilder();
        for (int i = 0; i < 10; i++) s.append(x.count(i)).append(' ');
        for (int i = 0; i < 5; i++) s.append(x.coins(i)).append(' ');
        for (int m = 0; m < 40; m++) {
            for (int i = 0; i < 7; i++) s.append(x.man(m, i)).append(' ');
            s.append(x.served(m)).append(' ').append(x.over(m, 499)).append(' ');
        }
        for (int d = 0; d < 500; d++) {
            for (int h = 0; h < 12; h++) s.append(x.flow(d, h)).append(' ');
            s.append(x.inForce(d, 0)).append(' ').append(x.inForce(d, d)).append(' ').append(x.inForce(d, 499)).append(' ');
        }
        for (int b = 0; b < x.count(1); b++) {
            for (int i = 0; i < 5; i++) s.append(x.craft(b, i)).append(' ');
            for (int m = 0; m < 40; m++) {
                for (int to = 0; to < x.count(0); to++) s.append(x.why(b, m, to)).append(' ');
            }
        }
        for (int t = 0; t < x.count(2); t++) {
            for (int i = 0; i < 8; i++) s.append(x.trip(t, i)).append(' ');
            for (int k = 0; k < 500; k += 7) s.append(x.due(t, k)).append(' ');
        }
        for (int p = 0; p < x.count(8); p++) {
            for (int i = 0; i < 3; i++) s.append(x.pensioner(p, i)).append(' ');
        }
        return s.append(x.foretold()).toString();
    }

    /** All that can be asked, and all that shows only in what comes later: the river is used up by it. */
    static String allOf(WaterMen x) {
        StringBuilder s = new StringBuilder(stateOf(x));
        faresOf(x, s);
        int today = x.count(4) / 720;
        for (int d = today; d < 500; d++) s.append(x.frost(d, 0)).append(' ');
        s.append(x.order(0)).append(' ');
        faresOf(x, s);
        x.end(0);
        s.append(order(x, "fare 0 to 60 is 1; bridge 12 to 12;", 0)).append(' ');
        s.append(stateOf(x));
        for (int i = 0; i < 12; i++) s.append(x.table(i, 0)).append(' ');
        for (int d = 0; d < 500; d++) {
            for (int h = 0; h < 12; h++) s.append(x.flow(d, h)).append(' ');
        }
        for (int m = 0; m < 40; m++) {
            if (x.man(m, 0) != 1) continue;
            for (int d = 0; d <= today; d++) s.append(x.absent(m, d, d)).append(' ');
        }
        for (int d = today + 1; d < 500; d++) {
            goToDay(x, d);
            s.append(x.foretold()).append(' ').append(x.coins(0)).append(' ');
            if (d == today + 1) s.append(stateOf(x));
        }
        return s.append(stateOf(x)).toString();
    }

    private static void faresOf(WaterMen x, StringBuilder s) {
        int last = x.count(0) - 1;
        for (int o = 0; o < x.count(3); o++) {
            for (int hours = 0; hours < 24; hours++) {
                s.append(x.fare(o, 0, 1, hours, 1)).append(' ').append(x.fare(o, last, 0, hours, 2)).append(' ');
            }
        }
    }

    private static final int[] EDGES = {Integer.MIN_VALUE, Integer.MIN_VALUE + 1, -1000, -2, -1, Integer.MAX_VALUE - 1, Integer.MAX_VALUE};
    private static final int[] FAR = {Integer.MIN_VALUE, Integer.MIN_VALUE + 1, -(1 << 20), 1 << 20, Integer.MAX_VALUE - 1, Integer.MAX_VALUE};

    /** Numbers that are wrong nearly everywhere. */
    static int[] edges() {
        return EDGES.clone();
    }

    /** Numbers that are wrong everywhere but in feed(). */
    static int[] far() {
        return FAR.clone();
    }
}
