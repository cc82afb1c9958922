import java.io.IOException;
import java.lang.reflect.Field;
import java.lang.reflect.Method;
import java.lang.reflect.Modifier;
import java.nio.file.Files;
import java.nio.file.Path;
import java.util.Set;
import java.util.TreeSet;

/** The face that the document tells, and those rules of LANGUAGE.md that a look at the class and its words can judge. */
public final class FaceTest {
    private static final Check check = new Check();
    private static final String FACE = "stairs1 bridge1 level3 table2 flow2 frost2 free1 bind2 absent3 served1 pass1 man2 boat2 craft2 join2 "
        + "leave1 feed5 end1 order1 inForce2 fare5 why3 row4 minutes1 sink3 trip2 due2 over2 pension2 foretold0 pensioner2 count1 coins1";

    public static void main(String[] args) throws IOException {
        constants();
        methods();
        classes();
        words();
        check.end();
    }

    private static void constants() {
        check.is("BAD", WaterMen.BAD, -1);
        check.is("NOT", WaterMen.NOT, -2);
        check.is("FULL", WaterMen.FULL, -3);
        int open = 0;
        for (Field f : WaterMen.class.getDeclaredFields()) if (!Modifier.isPrivate(f.getModifiers())) open++;
        check.is("fields that are not private", open, 3);
    }

    private static void methods() {
        Set<String> open = new TreeSet<>();
        Set<String> names = new TreeSet<>();
        for (Method m : WaterMen.class.getDeclaredMethods()) {
            if (Modifier.isPrivate(m.getModifiers())) continue;
            open.add(m.getName() + m.getParameterCount());
            names.add(m.getName());
            check.holds(m + " answers an int", m.getReturnType() == int.class);
            check.holds(m + " is public and of an object", Modifier.isPublic(m.getModifiers()) && !Modifier.isStatic(m.getModifiers()));
            for (Class<?> c : m.getParameterTypes()) check.holds(m + " takes ints", c == int.class);
        }
        check.holds("the methods of the document and no other: " + open, open.equals(new TreeSet<>(Set.of(FACE.split(" ")))));
        check.is("constructors", WaterMen.class.getDeclaredConstructors().length, 1);
        check.is("public constructors without arguments", WaterMen.class.getConstructors()[0].getParameterCount(), 0);
        for (Class<?> c : all()) {
            for (Method m : c.getDeclaredMethods()) {
                boolean ofTheFace = c == WaterMen.class && Modifier.isPublic(m.getModifiers());
                check.holds(c + " names a method as the face does: " + m, ofTheFace || !names.contains(m.getName()));
                check.holds(m + " takes seven at most", m.getParameterCount() <= 7);
            }
        }
    }

    private static Set<Class<?>> all() {
        Set<Class<?>> all = new java.util.HashSet<>(Set.of(WaterMen.class.getDeclaredClasses()));
        all.add(WaterMen.class);
        return all;
    }

    private static void classes() {
        int mods = WaterMen.class.getModifiers();
        check.holds("public and final", Modifier.isPublic(mods) && Modifier.isFinal(mods));
        check.holds("twelve classes at most", all().size() <= 12);
        for (Class<?> c : all()) {
            int own = 0;
            for (Field f : c.getDeclaredFields()) {
                boolean fixed = Modifier.isStatic(f.getModifiers());
                if (!fixed) own++;
                check.holds(f + ": static only as a final number", !fixed || Modifier.isFinal(f.getModifiers()) && f.getType() == int.class);
            }
            check.holds(c + " has some twenty fields at most", own <= 20);
            int inner = c.getModifiers();
            check.holds(c + " is static and not public", c == WaterMen.class || Modifier.isStatic(inner) && !Modifier.isPublic(inner));
        }
    }

    private static void words() throws IOException {
        String source = Files.readString(Path.of("src/main/java/WaterMen.java"));
        String code = source.replaceAll("(?s)/\\*.*?\\*/", " ").replaceAll("//[^\n]*", " ");
        for (String word : "throw throws try catch finally synchronized assert import package instanceof protected native volatile".split(" ")) {
            check.holds("no word " + word, !code.matches("(?s).*\\b" + word + "\\b.*"));
        }
        for (String sign : new String[] {"->", "::", "Exact(", "System.", "@"}) check.holds("no " + sign, !code.contains(sign));
        check.holds("plain signs alone", code.chars().allMatch(c -> c == 10 || c >= 32 && c < 127));
        check.holds("no method of more than some sixty lines", longest(source) <= 60);
    }

    /** The most lines between a method's head and its end, told by how far they are set in. */
    private static int longest(String source) {
        int most = 0;
        int since = -1;
        String in = "";
        String[] lines = source.split("\n");
        for (int i = 0; i < lines.length; i++) {
            String line = lines[i];
            if (since < 0 && line.matches(" {4,8}[^ /].*\\) \\{")) {
                since = i;
                in = line.substring(0, line.length() - line.stripLeading().length());
            } else if (since >= 0 && line.equals(in + "}")) {
                most = Math.max(most, i - since + 1);
                since = -1;
            }
        }
        return most;
    }
}
