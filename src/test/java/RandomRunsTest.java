import java.lang.reflect.Method;
import java.util.ArrayList;
import java.util.Arrays;
import java.util.List;
import java.util.Random;

/** Runs of 512 drawn calls (the same ones each time), each answer held against PlainRiver's. */
public final class RandomRunsTest {
    private static final int RUNS = 1500, CALLS = 512;
    private static final String[] WORDS = {"fare", "to", "is", "with", "against", "hour", "sunday", "least", "bridge", "head", "oars",
        ";", ";", " ", "x", "far", "7", "123456", "0", "99999", "-", "\u00e9"};
    /** Names as often as they are wanted. */
    private static final String[] MIX = ("stairs stairs stairs bridge bridge level level table table flow frost free free free bind bind "
        + "absent absent absent served pass man man boat boat craft craft join join join leave text text text feed end order inForce inForce fare fare fare "
        + "why why why row row row row row row row row row row row row minutes minutes minutes minutes minutes minutes minutes minutes sink trip trip due due due over over pension foretold foretold pensioner count "
        + "coins coins").split(" ");

    private static final List<String> ASKS = List.of("flow", "served", "man", "craft", "inForce", "fare", "why", "trip", "due", "over",
        "foretold", "pensioner", "count", "coins");

    private final Random random;
    private final WaterMen x = new WaterMen();
    private final PlainRiver plain = new PlainRiver();
    private final List<String> calls = new ArrayList<>();
    /** How fast time goes by, and how often a number is drawn far outside; each run has its own. */
    private final int haste, wild;
    /** Whether all that can be asked is asked ahead of each call and behind it. */
    private final boolean watched;
    private boolean differs;

    private RandomRunsTest(long seed) {
        random = new Random(seed);
        haste = random.nextInt(4);
        wild = random.nextInt(3) == 0 ? 5 : 60;
        watched = seed % 250 == 7;
    }

    public static void main(String[] args) throws ReflectiveOperationException {
        int wrong = 0;
        int[] kinds = new int[10];
        for (int seed = 0; seed < RUNS && wrong < 5; seed++) {
            if (!new RandomRunsTest(seed).run(seed, kinds)) wrong++;
        }
        System.out.println("rows by why 0 to 7, bad rows, men that passed: " + Arrays.toString(kinds));
        for (int i = 0; i < kinds.length; i++) {
            if (kinds[i] < 20) {
                System.out.println("the runs seldom see the one at place " + i);
                wrong++;
            }
        }
        System.out.println(RUNS + " runs, " + wrong + " wrong");
        if (wrong != 0) System.exit(1);
    }

    private boolean run(int seed, int[] kinds) throws ReflectiveOperationException {
        setTheScene();
        int leapAt = 100 + random.nextInt(100);
        while (calls.size() < CALLS && !differs) {
            if (haste == 3 && calls.size() >= leapAt) {
                leap();
                leapAt = CALLS;
            }
            String name = MIX[random.nextInt(MIX.length)];
            if (name.equals("text")) {
                text();
                continue;
            }
            int got = call(name, argumentsOf(name));
            if (name.equals("row") && got >= -17) kinds[got >= 0 ? 0 : got < -10 ? -10 - got : 8]++;
            if (name.equals("pass") && got == 1) kinds[9]++;
        }
        if (differs) return report(seed);
        if (x.coins(0) + x.coins(1) + x.coins(2) + x.coins(4) != x.coins(3)) {
            System.out.println("run " + seed + ": coins were lost or made");
            return false;
        }
        return true;
    }

    private void setTheScene() throws ReflectiveOperationException {
        if (random.nextInt(8) == 0) return;
        for (int i = 0, miles = 0; i < 4; i++, miles += 1 + random.nextInt(12)) call("stairs", new int[] {miles});
        for (int i = 0; i < 4; i++) call("boat", new int[] {1 + random.nextInt(2), random.nextInt(4)});
        for (int i = 0; i < 5; i++) call("free", new int[] {i});
        call("bridge", new int[] {random.nextInt(3)});
        for (int i = 0; i < 12; i++) call("table", new int[] {i, random.nextInt(60) - 30});
        text("fare 0 to 60 is " + random.nextInt(200) + ";", 0);
        call("bind", 6, 0);
        call("bind", 7, 1);
    }

    /** Far enough for apprentices to pass, and now and then up to the end of time. */
    private void leap() throws ReflectiveOperationException {
        int to = random.nextBoolean() ? 359999 - random.nextInt(300) : random.nextInt(360000);
        for (int t = plain.count(4); t < to; t = plain.count(4)) call("minutes", Math.min(1440, to - t));
    }

    private int call(String name, int... args) throws ReflectiveOperationException {
        Class<?>[] types = new Class<?>[args.length];
        Arrays.fill(types, int.class);
        Object[] boxed = Arrays.stream(args).boxed().toArray();
        String before = watched ? Check.stateOf(x) : "";
        int got = (Integer) WaterMen.class.getMethod(name, types).invoke(x, boxed);
        if (watched && (ASKS.contains(name) || isRefusal(name, got)) && !before.equals(Check.stateOf(x))) {
            System.out.println(name + Arrays.toString(args) + " = " + got + " has changed something");
            differs = true;
        }
        Method due = PlainRiver.class.getDeclaredMethod(name, types);
        int want = (Integer) due.invoke(plain, boxed);
        calls.add(name + Arrays.toString(args) + " = " + got + (got == want ? "" : ", due is " + want));
        differs |= got != want;
        return got;
    }

    private static boolean isRefusal(String name, int answer) {
        if (name.equals("order")) return answer < 0 && answer > -100;
        if (name.equals("table")) return answer == -1000;
        return answer < 0;
    }

    private boolean report(int seed) {
        System.out.println("run " + seed + ", call " + calls.size() + ":");
        for (String c : calls.subList(Math.max(0, calls.size() - 40), calls.size())) System.out.println("  " + c);
        return false;
    }

    private void text() throws ReflectiveOperationException {
        StringBuilder text = new StringBuilder();
        int lines = random.nextInt(10) == 0 ? 20 : 1 + random.nextInt(7);
        for (int i = 0; i < lines; i++) {
            text.append(random.nextInt(60) == 0 ? WORDS[random.nextInt(WORDS.length)] : line());
            if (random.nextInt(4) == 0) text.append(' ');
        }
        if (random.nextInt(4) == 0 && text.length() > 0) {
            int at = random.nextInt(text.length());
            String word = WORDS[random.nextInt(WORDS.length)];
            if (random.nextBoolean()) text.insert(at, word);
            else text.replace(at, Math.min(text.length(), at + 1 + random.nextInt(3)), "");
        }
        if (random.nextInt(8) == 0) text.setLength(random.nextInt(text.length() + 1));
        if (text.length() > 400) text.setLength(400);
        int today = plain.count(4) / 720;
        int from = random.nextInt(3) == 0 ? today + 5 - random.nextInt(10) : random.nextInt(3) == 0 ? 0 : today;
        text(text.toString(), from);
    }

    private void text(String text, int from) throws ReflectiveOperationException {
        byte[] b = text.getBytes(java.nio.charset.StandardCharsets.ISO_8859_1);
        call("end", 0);
        for (int i = 0; i < b.length; i += 20) {
            call("feed", Check.four(b, i), Check.four(b, i + 4), Check.four(b, i + 8), Check.four(b, i + 12), Check.four(b, i + 16));
        }
        call("end", b.length);
        call("order", from);
    }

    private String line() {
        String sp = random.nextInt(3) == 0 ? "" : " ";
        int a = random.nextInt(20), b = a + random.nextInt(60) - 3, n = random.nextInt(random.nextInt(9) == 0 ? 99999 : 300);
        String range = sp + a + sp + "to" + sp + Math.max(0, b) + sp;
        switch (random.nextInt(12)) {
            case 0: return "with" + sp + n + ";";
            case 1: return "against" + sp + n + sp + ";";
            case 2: return "sunday" + sp + n + ";";
            case 3: return "least" + sp + n / 4 + ";";
            case 4: return "bridge" + sp + a / 3 + "to" + (a / 3 + random.nextInt(8)) + ";";
            case 5: return "head" + sp + n / 6 + ";";
            case 6: return "oars" + sp + n + ";";
            case 7: case 8: return "hour" + sp + a / 3 + "to" + (a / 3 + random.nextInt(5)) + sp + "is" + n + ";";
            case 9: return "fare" + sp + "0 to 60 is" + sp + n + ";";
            default: return "fare" + range + "is" + sp + n + ";";
        }
    }

    private int upTo(int n) {
        if (random.nextInt(wild) == 0) {
            int[] edges = Check.edges();
            return random.nextInt(3) == 0 ? edges[random.nextInt(edges.length)] : random.nextBoolean() ? n : -1;
        }
        return n <= 0 ? 0 : random.nextInt(n);
    }

    private int man() {
        return random.nextInt(5) == 0 ? upTo(40) : upTo(9);
    }

    private int day() {
        int today = plain.count(4) / 720;
        switch (random.nextInt(4)) {
            case 0: return upTo(500);
            case 1: return upTo(today + 1);
            default: return today + random.nextInt(4) - (random.nextInt(3) == 0 ? 2 : 0);
        }
    }

    private int someStairs() {
        return upTo(plain.count(0));
    }

    private int someBoat() {
        return upTo(plain.count(1));
    }

    private int someTrip() {
        return upTo(plain.count(2));
    }

    private int pay() {
        return random.nextInt(6) == 0 ? upTo(1000001) : upTo(400);
    }

    private int someMinutes() {
        if (haste == 0) return 1 + upTo(90);
        if (haste == 1) return 1 + upTo(720);
        return random.nextInt(4) == 0 ? upTo(1441) : 1440;
    }

    private int[] argumentsOf(String name) {
        switch (name) {
            case "stairs": return new int[] {random.nextInt(3) == 0 ? upTo(61) : Math.max(0, plain.count(0) * 5 + upTo(3))};
            case "bridge": return new int[] {upTo(plain.count(0)) - random.nextInt(2)};
            case "level": return new int[] {day(), upTo(12), upTo(181) - 90};
            case "table": return new int[] {upTo(12), upTo(181) - 90};
            case "flow": return new int[] {day(), upTo(12)};
            case "frost": return new int[] {day(), random.nextInt(4) == 0 ? upTo(2) : 0};
            case "free": case "served": case "pass": case "leave": return new int[] {man()};
            case "bind": return new int[] {man(), upTo(5)};
            case "absent": {
                int a = day();
                return new int[] {man(), a, random.nextInt(4) == 0 ? day() : a + random.nextInt(3)};
            }
            case "man": return new int[] {man(), upTo(7)};
            case "boat": return new int[] {1 + upTo(2), someStairs()};
            case "craft": return new int[] {someBoat(), upTo(5)};
            case "join": return new int[] {someStairs(), man()};
            case "feed": return new int[] {random.nextInt(), random.nextInt(), 0x66617265, 0x20202020, random.nextInt()};
            case "end": return new int[] {upTo(plain.count(9) + 1)};
            case "order": return new int[] {day()};
            case "inForce": return new int[] {day(), day()};
            case "fare": return new int[] {upTo(plain.count(3)), someStairs(), someStairs(), upTo(6000), 1 + upTo(2)};
            case "why": return new int[] {someBoat(), man(), someStairs()};
            case "row": return new int[] {someBoat(), man(), someStairs(), pay()};
            case "minutes": return new int[] {someMinutes()};
            case "sink": return new int[] {someBoat(), 1 + upTo(100), upTo(random.nextBoolean() ? 10000 : 400)};
            case "trip": return new int[] {someTrip(), upTo(8)};
            case "due": return new int[] {someTrip(), day()};
            case "over": return new int[] {man(), day()};
            case "pension": return new int[] {1 + upTo(random.nextBoolean() ? 30 : 10000), upTo(random.nextBoolean() ? 10000 : 600)};
            case "pensioner": return new int[] {upTo(plain.count(8)), upTo(3)};
            case "count": return new int[] {upTo(10)};
            case "coins": return new int[] {upTo(5)};
            default: return new int[0];
        }
    }
}
