import java.io.IOException;
import java.lang.management.ManagementFactory;
import java.lang.reflect.Array;
import java.lang.reflect.Field;
import java.lang.reflect.Method;
import java.lang.reflect.Modifier;
import java.nio.file.Files;
import java.nio.file.Path;
import java.util.ArrayDeque;
import java.util.ArrayList;
import java.util.Collections;
import java.util.Deque;
import java.util.IdentityHashMap;
import java.util.List;
import java.util.Set;
import java.util.TreeSet;
import java.util.regex.Matcher;
import java.util.regex.Pattern;

/** The public face, and what of ../shared/LANGUAGE.md can be seen in the class and its source. */
public final class RulesTest {
    private static final String FACE = "int net(int,int);int rain(int);int twine(int);int hands(int);int wide(int,int);"
            + "int tie(int,int,int,int);int mend(int,int);int drop(int);int night();int undo();int type(int);int clear();"
            + "int read();int of(int,int);int clause(int,int);int laws();int holdsAll(int);int dropped(int);"
            + "int least(int,int,int);int fish(int);int precedent(int);int reading(int,int,int);int forget();int may();"
            + "int tries();int stood(int,int,int);int menders(int,int,int,int);int odds(int,int);int drawn(int,int);"
            + "long part(int);int image(int);int from(int);int status(int);int count(int);long digest()";
    private static final String SOURCE = "src/main/java/NetLaw.java";
    private static final int MOST_OBJECTS = 100, MOST_ELEMENTS = 3000;

    public static void main(String[] args) throws IOException {
        face();
        names();
        fields();
        sizes();
        source(Files.readString(Path.of(SOURCE)));
        room();
        nothingMade();
        Due.end("RulesTest");
    }

    private static void hold(String rule, boolean holds) {
        Due.due(rule, holds ? 1 : 0, 1);
    }

    private static String told(Method m) {
        List<String> parameters = new ArrayList<>();
        for (Class<?> p : m.getParameterTypes()) {
            parameters.add(p.getName());
        }
        return m.getReturnType().getName() + " " + m.getName() + "(" + String.join(",", parameters) + ")";
    }

    private static void face() {
        hold("the class is public and final",
                Modifier.isPublic(NetLaw.class.getModifiers()) && Modifier.isFinal(NetLaw.class.getModifiers()));
        Set<String> want = new TreeSet<>(List.of(FACE.split(";")));
        Set<String> has = new TreeSet<>();
        for (Method m : NetLaw.class.getDeclaredMethods()) {
            if (!Modifier.isPrivate(m.getModifiers())) {
                has.add(told(m));
                hold(m + " is public and no more", m.getModifiers() == Modifier.PUBLIC);
            }
        }
        hold("the methods of the face: " + has, has.equals(want));
        Set<String> constants = new TreeSet<>();
        for (Field f : NetLaw.class.getDeclaredFields()) {
            if (!Modifier.isPrivate(f.getModifiers())) {
                constants.add(f.getName());
                hold(f + " is a constant", f.getType() == int.class
                        && f.getModifiers() == (Modifier.PUBLIC | Modifier.STATIC | Modifier.FINAL));
            }
        }
        hold("the constants", constants.equals(new TreeSet<>(List.of("NONE", "BAD", "NO", "FULL"))));
        Due.due("NONE", NetLaw.NONE, -1);
        Due.due("BAD", NetLaw.BAD, -2);
        Due.due("NO", NetLaw.NO, -3);
        Due.due("FULL", NetLaw.FULL, -4);
        Due.due("constructors", NetLaw.class.getDeclaredConstructors().length, 1);
        Due.due("public constructors", NetLaw.class.getConstructors().length, 1);
    }

    private static List<Class<?>> classes() {
        List<Class<?>> all = new ArrayList<>(List.of(NetLaw.class.getDeclaredClasses()));
        all.add(NetLaw.class);
        return all;
    }

    private static void names() {
        Set<String> faceNames = new TreeSet<>();
        for (Method m : NetLaw.class.getMethods()) {
            faceNames.add(m.getName());
        }
        for (Class<?> c : classes()) {
            for (Method m : c.getDeclaredMethods()) {
                boolean ofFace = c == NetLaw.class && Modifier.isPublic(m.getModifiers());
                hold(m + " bears a name of its own", ofFace || !faceNames.contains(m.getName()));
                hold(m + " takes seven at most", m.getParameterCount() <= 7);
            }
        }
    }

    private static void fields() {
        for (Class<?> c : classes()) {
            int own = 0;
            for (Field f : c.getDeclaredFields()) {
                if (Modifier.isStatic(f.getModifiers())) {
                    hold(f + " is a constant", Modifier.isFinal(f.getModifiers()) && f.getType().isPrimitive());
                } else {
                    own++;
                }
            }
            hold(c + " has some twenty fields at most", own <= 20);
            hold(c + " is static", c == NetLaw.class || Modifier.isStatic(c.getModifiers()));
            hold(c + " is not public", c == NetLaw.class || !Modifier.isPublic(c.getModifiers()));
        }
        hold("some twelve classes at most", classes().size() <= 12);
    }

    private static void sizes() throws IOException {
        List<String> lines = Files.readAllLines(Path.of(SOURCE));
        Pattern head = Pattern.compile("^( {4}| {8})[a-z].*\\) \\{$");
        for (int i = 0; i < lines.size(); i++) {
            Matcher m = head.matcher(lines.get(i));
            if (m.matches()) {
                int end = i;
                while (end < lines.size() && !lines.get(end).equals(m.group(1) + "}")) {
                    end++;
                }
                hold("short: " + lines.get(i).trim(), end - i < 60);
            }
            hold("characters of line " + (i + 1), lines.get(i).chars().allMatch(c -> c >= 32 && c < 127));
        }
    }

    private static void source(String text) {
        String code = text.replaceAll("(?s)/\\*.*?\\*/", "").replaceAll("//[^\n]*", "").replaceAll("\"[^\"\n]*\"", "\"\"");
        String[] never = {"\\bthrow\\b", "\\bthrows\\b", "\\btry\\b", "\\bcatch\\b", "\\bsynchronized\\b", "\\bassert\\b",
            "->", "::", "\\w*Exact\\b", "\\bObject\\b", "\\bsystem\\.(?!arraycopy)", "\\bSystem\\.(?!arraycopy\\()",
            "static \\{", "@", "\\bpackage\\b", "\\bequals\\b", "\\bhashCode\\b", "\\btoString\\b", "\\bvar\\b",
            "\\bThread\\b", "\\bprotected\\b", "\\bdouble\\b", "\\bfloat\\b", "\\bvolatile\\b", "\\bnative\\b"};
        for (String word : never) {
            Matcher m = Pattern.compile(word).matcher(code);
            hold("no " + word, !m.find());
        }
        Matcher imports = Pattern.compile("import [^;]*;").matcher(code);
        while (imports.find()) {
            hold(imports.group(), imports.group().equals("import java.util.Arrays;"));
        }
    }

    /** One object's room: what can be reached from a new one. */
    private static void room() {
        Set<Object> seen = Collections.newSetFromMap(new IdentityHashMap<>());
        Deque<Object> open = new ArrayDeque<>();
        open.add(new NetLaw());
        int elements = 0;
        while (!open.isEmpty()) {
            Object o = open.poll();
            if (!seen.add(o)) {
                continue;
            }
            List<Object> parts = o.getClass().isArray() ? elementsOf(o) : fieldsOf(o);
            elements += parts.size();
            for (Object part : parts) {
                if (part != null && (part.getClass().isArray() || part.getClass().getName().startsWith("NetLaw"))) {
                    open.add(part);
                }
            }
        }
        System.out.println("a new object: " + seen.size() + " objects and arrays, " + elements + " fields and elements");
        hold("few objects", seen.size() <= MOST_OBJECTS);
        hold("few elements", elements <= MOST_ELEMENTS);
    }

    private static List<Object> elementsOf(Object array) {
        List<Object> all = new ArrayList<>();
        for (int i = 0; i < Array.getLength(array); i++) {
            all.add(Array.get(array, i));
        }
        return all;
    }

    private static List<Object> fieldsOf(Object o) {
        List<Object> all = new ArrayList<>();
        try {
            for (Field f : o.getClass().getDeclaredFields()) {
                if (!Modifier.isStatic(f.getModifiers())) {
                    f.setAccessible(true);
                    all.add(f.get(o));
                }
            }
        } catch (IllegalAccessException e) {
            hold("the fields of " + o.getClass() + " can be looked at", false);
        }
        return all;
    }

    /** All rows are made with the object: a call makes nothing. */
    private static void nothingMade() {
        if (!(ManagementFactory.getThreadMXBean() instanceof com.sun.management.ThreadMXBean)) {
            return;
        }
        com.sun.management.ThreadMXBean bean = (com.sun.management.ThreadMXBean) ManagementFactory.getThreadMXBean();
        long id = Thread.currentThread().getId();
        NetLaw x = new NetLaw();
        Due.typeAll(x, "net 0 50;knot 5 5 5 1;knot 6 4 3 2;knot 9 2 1 0;wide 4 30;");
        callAll(x);
        bean.getThreadAllocatedBytes(id);
        long before = bean.getThreadAllocatedBytes(id);
        long between = bean.getThreadAllocatedBytes(id);
        for (int i = 0; i < 100; i++) {
            callAll(x);
        }
        long after = bean.getThreadAllocatedBytes(id);
        Due.due("bytes that 100 rounds of all calls make", after - between, between - before);
    }

    private static void callAll(NetLaw x) {
        x.read();
        x.rain(1);
        x.twine(60);
        x.hands(65535);
        x.wide(3, 12);
        x.tie(1, 3, 9, 0);
        x.mend(5, 2);
        x.drop(1);
        x.night();
        x.undo();
        x.of(5, 3);
        x.clause(4, 1);
        x.laws();
        x.holdsAll(0);
        x.dropped(4);
        x.least(3, 4, -1);
        x.fish(1);
        x.image(1);
        x.precedent(1);
        x.reading(4, 0, 4);
        x.may();
        x.tries();
        x.forget();
        x.stood(0, 1, 0);
        x.menders(3, 4, 2, 0);
        x.odds(4, 3);
        x.drawn(77, 30);
        x.part(0);
        x.from(1);
        x.status(0);
        x.count(0);
        x.digest();
        x.net(0, 0);
    }
}
