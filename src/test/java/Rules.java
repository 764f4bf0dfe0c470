import java.lang.management.ManagementFactory;
import java.lang.reflect.Constructor;
import java.lang.reflect.Field;
import java.lang.reflect.Method;
import java.lang.reflect.Modifier;
import java.nio.file.Files;
import java.nio.file.Path;
import java.util.Arrays;
import java.util.List;
import java.util.Set;
import java.util.TreeSet;

/** The face, and those rules of LANGUAGE.md that can be looked up in the source or measured. */
public final class Rules {
    private static final Tester T = new Tester();
    private static final String[] FACE = {"int feed(int,int,int,int,int)", "int text(int)", "int fault(int)",
        "int named(int,int)", "int man(int,int)", "int last(int,int)", "int layer(int,int,int)", "int far(int,int)",
        "long law(int,int)", "int lay(int,int,int)", "int peel(int)", "boolean move(int,int)", "int go(int)",
        "int ahead(int,int,int)", "int firstCorn(int)", "int nearest(int)", "int likeness(int,int)", "int heart(int)",
        "int ease(int,int)", "int match(int)", "int join()", "int game(int)", "int rests(int,int)",
        "int rest(int,int,int)", "long dry(int,int)", "int sum(int)", "int settle(int,int,int)", "int knee()",
        "int walkers()", "int barest()", "int see(int,int,int,boolean)", "int strike(int)", "boolean known(int)",
        "int bumps(int)", "int ask(int,int,int)", "int chance(int,int,int,int)", "int tried(int,int,int)", "int undo()",
        "int keep()", "int back()", "int count(int)"};
    private static final String[] RULED_OUT = {"->", "::", "finally", "synchronized", "assert", "Exact(", "catch",
        "getMessage", "String.format", "Thread", "System.currentTimeMillis", "System.nanoTime", "java.io", "java.nio",
        "Random", "HashMap", "Stream", "Object", "hashCode", "toString", "static {"};
    private static final List<String> IMPORTS = List.of("import java.util.Arrays;",
            "import java.util.NoSuchElementException;", "import java.util.ArrayList;", "import java.util.List;");

    public static void main(String[] args) throws Exception {
        face();
        nested();
        source(Files.readAllLines(Path.of(args[0])));
        room();
        T.end();
    }

    private static String shown(Method m) {
        StringBuilder s = new StringBuilder(m.getReturnType() + " " + m.getName() + "(");
        for (Class<?> type : m.getParameterTypes()) {
            s.append(s.charAt(s.length() - 1) == '(' ? "" : ",").append(type);
        }
        return s.append(")").toString();
    }

    private static void face() {
        T.about("rule 1");
        Set<String> found = new TreeSet<>();
        Set<String> open = new TreeSet<>();
        for (Method m : LastHouse.class.getDeclaredMethods()) {
            if (!Modifier.isPrivate(m.getModifiers())) {
                found.add(shown(m));
                open.add(m.getName());
            }
        }
        T.dueRow("the methods", found.toString(), new TreeSet<>(Arrays.asList(FACE)).toString());
        for (Method m : LastHouse.class.getDeclaredMethods()) {
            T.due(m.getName() + " is private and named as one of the face",
                    Modifier.isPrivate(m.getModifiers()) && open.contains(m.getName()), false);
        }
        for (Field f : LastHouse.class.getDeclaredFields()) {
            T.due(f.getName() + " can be seen", !Modifier.isPrivate(f.getModifiers()), f.getName().equals("NONE"));
        }
        Constructor<?>[] makers = LastHouse.class.getDeclaredConstructors();
        T.due("constructors", makers.length, 1);
        T.due("public", Modifier.isPublic(makers[0].getModifiers()), true);
        T.due("final", Modifier.isFinal(LastHouse.class.getModifiers()), true);
    }

    private static void nested() {
        Class<?>[] all = LastHouse.class.getDeclaredClasses();
        T.due("some twelve classes", all.length <= 13, true);
        for (Class<?> c : all) {
            T.about("rules 1, 5, 11 of " + c.getName());
            T.due("static", Modifier.isStatic(c.getModifiers()), true);
            T.due("not open", Modifier.isPublic(c.getModifiers()) || Modifier.isProtected(c.getModifiers()), false);
            int fields = 0;
            for (Field f : c.getDeclaredFields()) {
                boolean fixed = Modifier.isStatic(f.getModifiers());
                T.due(f.getName() + " is static and not final", fixed && !Modifier.isFinal(f.getModifiers()), false);
                fields += fixed ? 0 : 1;
            }
            T.due("some twenty fields", fields <= 22, true);
            for (Method m : c.getDeclaredMethods()) {
                T.due(m.getName() + " has seven parameters at most", m.getParameterCount() <= 7, true);
            }
        }
    }

    private static void source(List<String> lines) {
        T.about("the source");
        int from = 0;
        for (int i = 0; i < lines.size(); i++) {
            String line = lines.get(i);
            boolean remark = line.trim().startsWith("/") || line.trim().startsWith("*");
            for (String out : RULED_OUT) {
                T.due("line " + (i + 1) + " has " + out, !remark && line.contains(out), false);
            }
            T.due("line " + (i + 1) + " imports", line.startsWith("import") && !IMPORTS.contains(line), false);
            T.due("line " + (i + 1) + " is long", line.length() > 130, false);
            T.due("line " + (i + 1) + " makes something outside a constructor", makesInACall(line), false);
            if (line.matches(" {4}( {4})?[a-z].*[(].*[{]") && !line.contains(" class ")) {
                from = i;
            }
            if (line.matches(" {4}( {4})?[}]")) {
                T.due("the method at line " + (from + 1) + " is long", i - from > 60, false);
            }
        }
    }

    /** Objects are made where fields are, in constructors' loops (three levels in) and to be thrown. */
    private static boolean makesInACall(String line) {
        return line.contains("new ") && !line.contains("final ") && !line.contains("throw new ")
                && !line.contains("Told told = new Told();") && !line.contains("deed[i] = new Deed();")
                && !line.contains("wedding[i] = new Wedding();");
    }

    /** A thousand dear calls make next to nothing. */
    private static void room() {
        T.about("rule 12");
        com.sun.management.ThreadMXBean threads = (com.sun.management.ThreadMXBean) ManagementFactory.getThreadMXBean();
        LastHouse x = Tester.told("house a 9;house b 8;man m a 10 1 1;man n b 9 2 2;add a 1 1 1;law bear 3+year;damp 30;");
        x.see(60, 0, 1, true);
        calls(x);
        long before = threads.getCurrentThreadAllocatedBytes();
        for (int k = 0; k < 60; k++) {
            calls(x);
        }
        T.due("bytes", threads.getCurrentThreadAllocatedBytes() - before < 20000, true);
        before = threads.getCurrentThreadAllocatedBytes();
        new LastHouse();
        T.due("bytes of an object", threads.getCurrentThreadAllocatedBytes() - before < 40000, true);
    }

    private static void calls(LastHouse x) {
        x.bumps(0);
        x.ask(0, 60, 0);
        x.match(0);
        x.join();
        x.ahead(200, 0, 0);
        x.tried(0, 0, 200);
        x.chance(1, 99, 0, 1);
        x.firstCorn(0);
        x.lay(0, 0, 1);
        x.ease(0, 0);
        x.game(0);
        x.rests(0, 1);
        x.keep();
        x.go(1);
        x.back();
        x.feed(0x64616d70, 0x20312020, 0x20202020, 0x20202020, 0x2020203b);
        x.text(19);
    }
}
