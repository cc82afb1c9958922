import java.lang.reflect.InvocationTargetException;
import java.lang.reflect.Method;
import java.nio.charset.StandardCharsets;
import java.util.ArrayList;
import java.util.Arrays;
import java.util.HashMap;
import java.util.List;
import java.util.Map;

/**
 * One sentence of the document and a run of calls on a new river that would go otherwise if it were broken.
 * Behind every question and every refused call of the run the river is held against a twin that was never asked.
 */
final class Story {
    private static final List<String> ASKS = List.of("flow", "served", "man", "craft", "inForce", "fare", "why", "trip", "due",
        "over", "foretold", "pensioner", "count", "coins");
    private static final Map<String, Method> METHODS = new HashMap<>();

    static {
        for (Method m : WaterMen.class.getDeclaredMethods()) METHODS.put(m.getName(), m);
    }

    private record Call(String name, int[] args) {
        int on(WaterMen x) {
            try {
                return (Integer) METHODS.get(name).invoke(x, Arrays.stream(args).boxed().toArray());
            } catch (InvocationTargetException e) {
                throw new IllegalStateException(this + " has thrown " + e.getCause());
            } catch (IllegalAccessException e) {
                throw new IllegalStateException(e);
            }
        }

        @Override
        public String toString() {
            return name + Arrays.toString(args).replace('[', '(').replace(']', ')');
        }
    }

    private final Check check;
    private final String sentence;
    private final WaterMen x = new WaterMen();
    private final List<Call> changes = new ArrayList<>();
    /** What a twin tells that had all the changes; empty: there was a change since. */
    private String twin = "";

    private Story(Check check, String sentence) {
        this.check = check;
        this.sentence = sentence;
    }

    static Story of(Check check, String sentence) {
        Quotes.mustStand(check, sentence);
        return new Story(check, sentence);
    }

    /** Calls with what is due: "stairs(0) = 0; stairs(0) = -1". A call without "=" may answer what it likes. */
    Story is(String run) {
        for (String part : run.split(";")) {
            String[] sides = part.split("=");
            Call call = parse(sides[0].strip());
            int got = make(call);
            if (sides.length > 1) check.is("'" + sentence + "': " + call, got, Integer.parseInt(sides[1].strip()));
        }
        return this;
    }

    /** Calls that all leave the river as it is, questions as well as refused ones. */
    Story still(String run) {
        for (String part : run.split(";")) {
            String[] sides = part.split("=");
            Call call = parse(sides[0].strip());
            int due = Integer.parseInt(sides[1].strip());
            check.is("'" + sentence + "': " + call, call.on(x), due);
            mustBeAsBefore(call, due);
        }
        return this;
    }

    /** The same call again and again, # being each of these, all with one answer. */
    Story each(String call, int due, int... values) {
        for (int v : values) is(call.replace("#", Integer.toString(v)) + " = " + due);
        return this;
    }

    /** Numbers far outside, whatever # stands for. */
    Story far(String call, int due) {
        return each(call, due, Check.far());
    }

    Story text(String text) {
        byte[] b = text.getBytes(StandardCharsets.ISO_8859_1);
        for (int i = 0; i < b.length; i += 20) {
            make(new Call("feed", new int[] {Check.four(b, i), Check.four(b, i + 4), Check.four(b, i + 8), Check.four(b, i + 12),
                Check.four(b, i + 16)}));
        }
        make(new Call("end", new int[] {b.length}));
        return this;
    }

    Story order(String text, int from, int due) {
        return text(text).is("order(" + from + ") = " + due);
    }

    /** An order that stands. */
    Story order(String text) {
        return order(text, 0, x.count(3));
    }

    Story time(int time) {
        while (x.count(4) < time) {
            if (make(new Call("minutes", new int[] {Math.min(1440, time - x.count(4))})) > 0) continue;
            check.holds("'" + sentence + "': time goes on to " + time, false);
            return this;
        }
        return this;
    }

    Story day(int day) {
        return time(day * 720);
    }

    private static Call parse(String call) {
        int open = call.indexOf('(');
        String inside = call.substring(open + 1, call.indexOf(')')).strip();
        int[] args = inside.isEmpty() ? new int[0] : Arrays.stream(inside.split(",")).mapToInt(s -> Integer.parseInt(s.strip())).toArray();
        return new Call(call.substring(0, open), args);
    }

    private int make(Call call) {
        int got = call.on(x);
        if (isRefusal(call.name, got)) {
            mustBeAsBefore(call, got);
        } else if (!ASKS.contains(call.name)) {
            changes.add(call);
            twin = "";
        }
        return got;
    }

    /** A fault empties the tape, so it is none. */
    private static boolean isRefusal(String name, int answer) {
        if (ASKS.contains(name)) return false;
        if (name.equals("order")) return answer < 0 && answer > -100;
        if (name.equals("table")) return answer == -1000;
        return answer < 0;
    }

    private void mustBeAsBefore(Call call, int answer) {
        if (twin.isEmpty()) twin = Check.allOf(replayed());
        WaterMen other = replayed();
        call.on(other);
        check.holds("'" + sentence + "': " + call + " = " + answer + " changes nothing", twin.equals(Check.allOf(other)));
    }

    private WaterMen replayed() {
        WaterMen y = new WaterMen();
        for (Call c : changes) c.on(y);
        return y;
    }
}
