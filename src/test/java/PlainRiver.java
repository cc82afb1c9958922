import java.util.ArrayList;
import java.util.Arrays;
import java.util.HashMap;
import java.util.List;
import java.util.Map;
import java.util.TreeSet;
import java.util.regex.Matcher;
import java.util.regex.Pattern;

/**
 * The document once more, as slowly and as plainly as can be: time goes by minute by minute, rows are lists,
 * gaps are sets of days, texts are judged by a pattern over their words. RandomRunsTest holds the class against it.
 */
final class PlainRiver {
    private static final int BAD = -1, NOT = -2, FULL = -3;

    private static final class Fellow {
        int state, master = -1, bound, coins, gapCount, trips;
        final TreeSet<Integer> gapDays = new TreeSet<>();
        boolean onWay;
    }

    private static final class Wherry {
        int oars, stairs, there, man = -1, state, trip;
    }

    private static final class Passage {
        int boat, man, from, to, begin, there, paid, sank;
    }

    private static final class Decree {
        final List<String[]> lines = new ArrayList<>();
        int from, made;

        int only(String word) {
            for (String[] l : lines) if (l[0].equals(word)) return Integer.parseInt(l[1]);
            return -1;
        }
    }

    private final List<Integer> stairs = new ArrayList<>();
    private int bridge = -1;
    private final Map<Integer, int[]> rows = new HashMap<>();
    private final int[] table = new int[12];
    private final TreeSet<Integer> frost = new TreeSet<>();
    private final Fellow[] men = new Fellow[40];
    private final List<Wherry> boats = new ArrayList<>();
    private final List<List<Integer>> turns = new ArrayList<>();
    private final StringBuilder tape = new StringBuilder();
    private final List<Decree> orders = new ArrayList<>();
    private final List<Passage> trips = new ArrayList<>();
    private final List<int[]> pensioners = new ArrayList<>();
    private final List<int[]> income = new ArrayList<>();
    private int time, box, pot, pensions;

    PlainRiver() {
        for (int i = 0; i < 40; i++) men[i] = new Fellow();
    }

    private int day() {
        return time / 720;
    }

    private static boolean in(int v, int a, int b) {
        return a <= v && v <= b;
    }

    private boolean isMan(int m) {
        return in(m, 0, 39);
    }

    private boolean isStairs(int s) {
        return in(s, 0, stairs.size() - 1);
    }

    int stairs(int miles) {
        if (!in(miles, 0, 60)) return BAD;
        for (int m : stairs) if (m >= miles) return BAD;
        if (stairs.size() == 12) return FULL;
        stairs.add(miles);
        turns.add(new ArrayList<>());
        return stairs.size() - 1;
    }

    int bridge(int above) {
        if (above != -1 && !in(above, 0, stairs.size() - 2)) return BAD;
        bridge = above;
        return 1;
    }

    private int level(int day, int hour) {
        return rows.containsKey(day) ? rows.get(day)[hour] : table[(hour + day) % 12];
    }

    int level(int day, int hour, int v) {
        if (!in(day, 0, 499) || !in(hour, 0, 11) || !in(v, -90, 90)) return BAD;
        int[] row = new int[12];
        for (int h = 0; h < 12; h++) row[h] = h == hour ? v : level(day, h);
        rows.put(day, row);
        return 1;
    }

    int table(int place, int v) {
        if (!in(place, 0, 11) || !in(v, -90, 90)) return -1000;
        int was = table[place];
        table[place] = v;
        return was;
    }

    int flow(int day, int hour) {
        if (!in(day, 0, 499) || !in(hour, 0, 11)) return -1000;
        int next = day * 12 + hour + 1;
        return level(next / 12, next % 12) - level(day, hour);
    }

    int frost(int day, int is) {
        if (!in(day, day(), 499) || !in(is, 0, 1)) return BAD;
        boolean was = frost.contains(day);
        if (is == 1) frost.add(day);
        else frost.remove(day);
        return was ? 1 : 0;
    }

    int free(int man) {
        if (!isMan(man)) return BAD;
        if (men[man].state != 0) return NOT;
        men[man].state = 2;
        return 1;
    }

    int bind(int man, int master) {
        if (!isMan(man) || !isMan(master)) return BAD;
        if (men[man].state != 0 || men[master].state != 2) return NOT;
        men[man].state = 1;
        men[man].master = master;
        men[man].bound = day();
        return 1;
    }

    int absent(int man, int a, int b) {
        if (!isMan(man) || a < men[man].bound || b < a || b > day()) return BAD;
        Fellow f = men[man];
        if (f.state != 1) return NOT;
        for (int d = a - 1; d <= b + 1; d++) if (f.gapDays.contains(d)) return NOT;
        if (f.gapCount == 6) return FULL;
        for (int d = a; d <= b; d++) f.gapDays.add(d);
        return ++f.gapCount;
    }

    int served(int man) {
        if (!isMan(man)) return BAD;
        if (men[man].state != 1) return NOT;
        int n = 0;
        for (int d = men[man].bound; d < day(); d++) if (!men[man].gapDays.contains(d)) n++;
        return n;
    }

    int pass(int man) {
        int n = served(man);
        if (n < 0) return n;
        if (n < 300) return -100 - (300 - n);
        men[man].state = 2;
        return 1;
    }

    int man(int man, int what) {
        if (!isMan(man)) return -2;
        Fellow f = men[man];
        int at = -1;
        for (int s = 0; s < turns.size(); s++) if (turns.get(s).contains(man)) at = s;
        switch (what) {
            case 0: return f.state;
            case 1: return f.state == 1 ? f.master : -1;
            case 2: return at;
            case 3: return at < 0 ? -1 : turns.get(at).indexOf(man);
            case 4: return f.coins;
            case 5: return f.onWay ? 1 : 0;
            case 6: return f.trips;
            default: return -2;
        }
    }

    int boat(int oars, int at) {
        if (!in(oars, 1, 2) || !isStairs(at)) return BAD;
        if (boats.size() == 20) return FULL;
        Wherry w = new Wherry();
        w.oars = oars;
        w.stairs = at;
        boats.add(w);
        return boats.size() - 1;
    }

    int craft(int boat, int what) {
        if (!in(boat, 0, boats.size() - 1) || !in(what, 0, 4)) return BAD;
        Wherry w = boats.get(boat);
        return new int[] {w.stairs, w.oars, w.there, w.man, w.state}[what];
    }

    int join(int at, int man) {
        if (!isStairs(at) || !isMan(man)) return BAD;
        if (men[man].state != 2 || men[man].onWay || man(man, 2) >= 0) return NOT;
        turns.get(at).add(man);
        return turns.get(at).size();
    }

    int leave(int man) {
        if (!isMan(man)) return BAD;
        int at = man(man, 2);
        if (at < 0) return NOT;
        turns.get(at).remove(Integer.valueOf(man));
        return 1;
    }

    int feed(int a, int b, int c, int d, int e) {
        if (tape.length() > 380) return FULL;
        for (int v : new int[] {a, b, c, d, e}) {
            for (int s = 24; s >= 0; s -= 8) tape.append((char) (v >>> s & 255));
        }
        return tape.length();
    }

    int end(int n) {
        if (!in(n, 0, tape.length())) return BAD;
        tape.setLength(n);
        return n;
    }

    private static final Pattern PIECE = Pattern.compile("[a-z]+|[0-9]+|[^ ]", Pattern.DOTALL);
    private static final Pattern TEXT = Pattern.compile("(?:(?:fare|hour) n to n is n ; |bridge n to n ; |(?:with|against|sunday|least|head|oars) n ; )+");

    private static int seen(String line, String text) {
        int n = 0;
        Matcher m = Pattern.compile("(?:^|; )" + line + " ").matcher(text);
        for (int from = 0; m.find(from); from = m.start() + 1) n++;
        return n;
    }

    private int fault(Decree into) {
        Matcher m = PIECE.matcher(tape);
        String read = "";
        List<String> line = new ArrayList<>();
        while (m.find()) {
            String piece = m.group();
            boolean number = piece.matches("[0-9]{1,5}");
            String sort = number ? "n" : piece.equals("n") ? "N" : piece;
            Matcher whole = TEXT.matcher(read + sort + " ");
            if (!whole.matches() && !whole.hitEnd()) return m.start();
            if (line.isEmpty()) {
                int most = piece.equals("fare") || piece.equals("hour") ? 12 : 1;
                if (seen(piece, read) >= most) return m.start();
            }
            read += sort + " ";
            if (!piece.equals("to") && !piece.equals("is") && !piece.equals(";")) line.add(piece);
            if (piece.equals(";")) {
                into.lines.add(line.toArray(new String[0]));
                line.clear();
            }
        }
        return TEXT.matcher(read).matches() ? -1 : tape.length();
    }

    int order(int from) {
        if (!in(from, 0, 499)) return BAD;
        if (orders.size() == 20) return FULL;
        Decree d = new Decree();
        int fault = fault(d);
        tape.setLength(0);
        if (fault >= 0) return -100 - fault;
        d.from = from;
        d.made = day();
        orders.add(d);
        return orders.size() - 1;
    }

    int inForce(int day, int k) {
        if (!in(day, 0, 499) || !in(k, 0, 499)) return BAD;
        int found = NOT;
        for (int i = 0; i < orders.size(); i++) if (orders.get(i).made <= k && orders.get(i).from <= day) found = i;
        return found;
    }

    private static long rate(long v, int n) {
        return n < 0 ? v : Math.min(1000000, v * n / 100);
    }

    int fare(int order, int from, int to, int hours, int oars) {
        if (!in(order, 0, orders.size() - 1) || !isStairs(from) || !isStairs(to) || from == to) return BAD;
        if (!in(hours, 0, 5999) || !in(oars, 1, 2)) return BAD;
        Decree o = orders.get(order);
        int miles = Math.abs(stairs.get(from) - stairs.get(to));
        long v = -1;
        for (String[] l : o.lines) if (v < 0 && l[0].equals("fare") && holds(l, miles)) v = Integer.parseInt(l[3]);
        if (v < 0) return NOT;
        long along = (long) flow(hours / 12, hours % 12) * (to - from);
        if (along > 0) v = rate(v, o.only("with"));
        if (along < 0) v = rate(v, o.only("against"));
        for (String[] l : o.lines) if (l[0].equals("hour") && holds(l, hours % 12)) v = rate(v, Integer.parseInt(l[3]));
        if (hours / 12 % 7 == 0) v = rate(v, o.only("sunday"));
        if (oars == 2) v = rate(v, o.only("oars"));
        return (int) Math.max(v, o.only("least"));
    }

    private static boolean holds(String[] line, int v) {
        return in(v, Integer.parseInt(line[1]), Integer.parseInt(line[2]));
    }

    private int takes(Wherry w, int to) {
        long along = (long) flow(day(), time / 60 % 12) * (to - w.stairs);
        int all = Math.abs(stairs.get(to) - stairs.get(w.stairs)) * (along > 0 ? 7 : along < 0 ? 14 : 10);
        return w.oars == 2 ? all * 2 / 3 : all;
    }

    int why(int boat, int man, int to) {
        if (!in(boat, 0, boats.size() - 1) || !isMan(man) || !isStairs(to)) return BAD;
        Wherry w = boats.get(boat);
        if (w.state == 2 || w.stairs == to) return BAD;
        if (frost.contains(day())) return 1;
        if (w.state == 1) return 2;
        if (men[man].state != 2 || men[man].onWay) return 3;
        List<Integer> row = turns.get(w.stairs);
        if (!row.isEmpty() && row.get(0) != man) return 4;
        int o = inForce(day(), day());
        if (o < 0 || fare(o, w.stairs, to, time / 60, w.oars) < 0) return 5;
        if (bridge >= 0 && (w.stairs <= bridge) != (to <= bridge)) {
            for (String[] l : orders.get(o).lines) {
                if (l[0].equals("bridge") && !holds(l, time / 60 % 12)) return 6;
                if (l[0].equals("head") && Math.abs(flow(day(), time / 60 % 12)) > Integer.parseInt(l[1])) return 6;
            }
        }
        return time + takes(w, to) > 359999 ? 7 : 0;
    }

    int row(int boat, int man, int to, int paid) {
        int why = why(boat, man, to);
        if (why < 0 || !in(paid, 0, 1000000)) return BAD;
        if (why > 0) return -10 - why;
        if (trips.size() == 600) return FULL;
        Wherry w = boats.get(boat);
        Passage p = new Passage();
        p.boat = boat;
        p.man = man;
        p.from = w.stairs;
        p.to = to;
        p.begin = time;
        p.there = time + takes(w, to);
        p.paid = paid;
        w.trip = trips.size();
        trips.add(p);
        leave(man);
        w.stairs = to;
        w.there = p.there;
        w.man = man;
        w.state = 1;
        men[man].onWay = true;
        men[man].trips++;
        give(day(), paid / 20);
        if (day() % 7 == 0) pot += paid - paid / 20;
        else men[man].coins += paid - paid / 20;
        return trips.size() - 1;
    }

    private void give(int day, int coins) {
        box += coins;
        income.add(new int[] {day, coins});
    }

    int minutes(int n) {
        if (!in(n, 1, 1440) || time + n > 359999) return BAD;
        for (int i = 0; i < n; i++) {
            time++;
            if (time % 720 == 0) newDay();
            for (Wherry w : boats) {
                if (w.state == 1 && w.there == time) {
                    w.state = 0;
                    men[w.man].onWay = false;
                    w.man = -1;
                }
            }
        }
        return time;
    }

    private void newDay() {
        int over = day() - 1;
        if (over % 7 == 0) {
            TreeSet<Integer> who = new TreeSet<>();
            for (Passage p : trips) if (p.begin / 720 == over) who.add(p.man);
            if (!who.isEmpty()) {
                for (int m : who) men[m].coins += pot / who.size();
                give(over, pot % who.size());
                pot = 0;
            }
        }
        if (day() % 100 == 0) {
            for (int[] p : pensioners) {
                if (day() >= p[1] || p[0] > box) continue;
                box -= p[0];
                p[2] += p[0];
                pensions += p[0];
            }
        }
    }

    int sink(int boat, int pension, int end) {
        if (!in(boat, 0, boats.size() - 1) || !in(pension, 1, 10000) || !in(end, 0, 9999)) return BAD;
        Wherry w = boats.get(boat);
        if (w.state != 1) return NOT;
        if (pensioners.size() == 30) return FULL;
        w.state = 2;
        men[w.man].state = 3;
        men[w.man].onWay = false;
        w.man = -1;
        trips.get(w.trip).sank = 1;
        return pension(pension, end);
    }

    int trip(int trip, int what) {
        if (!in(trip, 0, trips.size() - 1) || !in(what, 0, 7)) return -2;
        Passage p = trips.get(trip);
        return new int[] {p.boat, p.man, p.from, p.to, p.begin, p.there, p.paid, p.sank}[what];
    }

    int due(int trip, int k) {
        if (!in(trip, 0, trips.size() - 1) || !in(k, 0, 499)) return -2;
        Passage p = trips.get(trip);
        int o = inForce(p.begin / 720, k);
        return o < 0 ? -1 : Math.max(-1, fare(o, p.from, p.to, p.begin / 60, boats.get(p.boat).oars));
    }

    int over(int man, int k) {
        if (!isMan(man) || !in(k, 0, 499)) return BAD;
        int sum = 0;
        for (int i = 0; i < trips.size(); i++) {
            if (trips.get(i).man == man && due(i, k) >= 0 && due(i, k) < trips.get(i).paid) sum += trips.get(i).paid - due(i, k);
        }
        return sum;
    }

    int pension(int coins, int end) {
        if (!in(coins, 1, 10000) || !in(end, 0, 9999)) return BAD;
        if (pensioners.size() == 30) return FULL;
        pensioners.add(new int[] {coins, end, 0});
        return pensioners.size() - 1;
    }

    int foretold() {
        int left = box;
        for (int d = day() + 1, seen = 0; seen < 40; d++) {
            if (d % 100 != 0) continue;
            seen++;
            for (int[] i : income) if (in(i[0], day() - 100, day())) left += i[1];
            for (int[] p : pensioners) {
                if (d >= p[1]) continue;
                if (p[0] > left) return d;
                left -= p[0];
            }
        }
        return NOT;
    }

    int pensioner(int i, int what) {
        return in(i, 0, pensioners.size() - 1) && in(what, 0, 2) ? pensioners.get(i)[what] : BAD;
    }

    int count(int what) {
        int[] states = new int[4];
        for (Fellow f : men) states[f.state]++;
        int[] all = {stairs.size(), boats.size(), trips.size(), orders.size(), time, states[2], states[1], states[3],
            pensioners.size(), tape.length()};
        return in(what, 0, 9) ? all[what] : BAD;
    }

    int coins(int what) {
        int mens = Arrays.stream(men).mapToInt(f -> f.coins).sum();
        int paid = trips.stream().mapToInt(p -> p.paid).sum();
        return in(what, 0, 4) ? new int[] {box, pot, mens, paid, pensions}[what] : BAD;
    }
}
