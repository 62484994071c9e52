import java.lang.management.ManagementFactory;
import java.lang.reflect.Array;
import java.lang.reflect.Constructor;
import java.lang.reflect.Field;
import java.lang.reflect.Member;
import java.lang.reflect.Method;
import java.lang.reflect.Modifier;
import java.nio.file.Files;
import java.nio.file.Path;
import java.util.ArrayDeque;
import java.util.Arrays;
import java.util.Collections;
import java.util.Deque;
import java.util.IdentityHashMap;
import java.util.Set;
import java.util.TreeSet;
import java.util.regex.Matcher;
import java.util.regex.Pattern;

/** The public face, and what ../shared/LANGUAGE.md asks of the class as far as a test can see it. */
public final class RulesTest {
    private static final String FACE = "int appeal(1) int back(1) int bald(1) int count(1) int debt(2) int did(2) int elected(1) int entry(2)"
        + " int feed(5) int fine(2) int forget(0) boolean hold(1) int led(2) boolean lend(3) int man(2) int payments(0) int place(0)"
        + " int quilt(2) int quiltOf(2) int read(0) int repay(3) boolean restore(1) boolean stuff(3) int stuffer(3) int surely(2)"
        + " int tariff(2) int tell(2) boolean undo(0) int warm(1) int warmBy(1) int weeks(1)";
    private static final String[] BANNED = {"\\bthrow\\b", "\\btry\\b", "\\bcatch\\b", "\\bsynchronized\\b", "\\bassert\\b",
        "\\bimport\\b(?! java\\.util\\.)", "\\bpackage\\b", "::", "->", "\\bhashCode\\b", "\\bSystem\\.(?!arraycopy)", "\\bprotected\\b",
        "\\bvar\\b", "Exact\\b", "\\bThread\\b", "\\bfinalize\\b", "[^\\x00-\\x7f]"};
    /** The room of one run: fields and elements, of 8 bytes at most. */
    private static final long MOST_ROOM = 7300000L * 8;

    public static void main(String[] args) throws Exception {
        face();
        members();
        source(Files.readString(Path.of("src/main/java/FeatherCourt.java")));
        room();
        roomOfOne();
        Check.close("RulesTest");
    }

    private static void face() throws Exception {
        Check.edge("the public face: the class");
        Check.due("public and final", FeatherCourt.class.getModifiers(), Modifier.PUBLIC | Modifier.FINAL);
        Check.edge("the public face: the constant");
        Field none = FeatherCourt.class.getDeclaredField("NONE");
        Check.due("public static final", none.getModifiers(), Modifier.PUBLIC | Modifier.STATIC | Modifier.FINAL);
        Check.due("NONE", none.getInt(null), -1);
        Check.edge("the public face: the constructor");
        Constructor<?>[] all = FeatherCourt.class.getDeclaredConstructors();
        Check.due("constructors", all.length, 1);
        Check.due("public", Modifier.isPublic(all[0].getModifiers()), true);
        Check.due("its parameters", all[0].getParameterCount(), 0);
        Check.edge("the public face: the methods");
        Set<String> names = new TreeSet<>((a, b) -> a.substring(a.indexOf(' ')).compareTo(b.substring(b.indexOf(' '))));
        for (Method m : FeatherCourt.class.getDeclaredMethods()) {
            if (Modifier.isPublic(m.getModifiers())) {
                names.add(m.getReturnType() + " " + m.getName() + "(" + m.getParameterCount() + ")");
                Check.due("ints alone: " + m, Arrays.stream(m.getParameterTypes()).allMatch(p -> p == int.class), true);
                Check.due("not static: " + m, Modifier.isStatic(m.getModifiers()), false);
            }
        }
        Check.due("all", " " + String.join(" ", names), " " + FACE);
    }

    private static void members() {
        Check.edge("rule 1: no other member than private ones, none by a public one's name");
        for (Method m : FeatherCourt.class.getDeclaredMethods()) {
            if (!Modifier.isPublic(m.getModifiers())) {
                isPrivate(m);
                Check.due("the name of " + m, FACE.contains(" " + m.getName() + "("), false);
            }
        }
        for (Field f : FeatherCourt.class.getDeclaredFields()) {
            if (!f.getName().equals("NONE")) {
                isPrivate(f);
            }
        }
        Class<?>[] inside = FeatherCourt.class.getDeclaredClasses();
        Check.edge("rule 2: classes inside are static");
        for (Class<?> c : inside) {
            Check.due("static " + c, Modifier.isStatic(c.getModifiers()), true);
            Check.due("not public " + c, Modifier.isPublic(c.getModifiers()) || Modifier.isProtected(c.getModifiers()), false);
        }
        Check.edge("rules 5 and 11: static fields are final, others are some twenty, classes some twelve");
        Check.due("classes", inside.length <= 12, true);
        Check.due("fields", ownFields(FeatherCourt.class) <= 20, true);
        for (Class<?> c : inside) {
            Check.due("fields of " + c, ownFields(c) <= 20, true);
        }
    }

    private static void isPrivate(Member m) {
        Check.due("private " + m, Modifier.isPrivate(m.getModifiers()), true);
    }

    private static int ownFields(Class<?> c) {
        int many = 0;
        for (Field f : c.getDeclaredFields()) {
            Check.due("final " + f, !Modifier.isStatic(f.getModifiers()) || Modifier.isFinal(f.getModifiers()), true);
            many += Modifier.isStatic(f.getModifiers()) ? 0 : 1;
        }
        return many;
    }

    private static void source(String source) {
        Check.edge("rules 4 to 6: what the source is without");
        String code = source.replaceAll("(?s)/\\*.*?\\*/", "").replaceAll("//[^\n]*", "");
        for (String banned : BANNED) {
            Matcher m = Pattern.compile(banned).matcher(code);
            Check.due(banned, m.find(), false);
        }
        Check.edge("rule 11: methods of some sixty lines at most");
        int lines = 0;
        boolean inside = false;
        for (String line : source.split("\n")) {
            boolean opens = line.matches("( {4}| {8})[a-zA-Z].*\\) \\{");
            lines = opens ? 0 : lines + 1;
            inside = opens || inside && !line.matches("( {4}| {8})\\}");
            Check.due("lines at " + line, !inside || lines <= 60, true);
        }
    }

    /** Bytes that this thread has taken, ever. */
    private static long taken() {
        return ((com.sun.management.ThreadMXBean) ManagementFactory.getThreadMXBean()).getCurrentThreadAllocatedBytes();
    }

    private static void room() {
        String village = Check.men(99, 88, 77, 66, 55, 44, 33, 22) + Check.deeds(1, 2, 3, 4, 5, 6, 7, 8) + "grow=1;moult 9;";
        for (int what = 0; what < 12; what++) {
            Check.edge("a run of 512 calls lives in one room: call " + what);
            long before = taken();
            FeatherCourt x = Check.court(village);
            for (int i = 0; i < 440; i++) {
                use(x, what);
            }
            Check.due("bytes", taken() - before < MOST_ROOM, true);
        }
    }

    /** 512 objects at once, each with its slots held, must live in one room of 600,000 objects and 7.3 million places. */
    private static void roomOfOne() throws Exception {
        Check.edge("the room of one object: as it is new, as it is used");
        FeatherCourt x = Check.court("man a 99;man b 99;deed d 1;");
        long[] first = reached(x);
        Check.due("objects: " + first[0], first[0] <= 1000, true);
        Check.due("fields and elements: " + first[1], first[1] <= 14000, true);
        for (int i = 0; i < 100; i++) {
            x.fine(0, 0);
            x.lend(0, 1, 1);
            x.hold(i % 3);
            use(x, i % 12);
        }
        long[] last = reached(x);
        Check.due("fields and elements, three slots held: " + last[1], last[1] <= 17000, true);
    }

    /** How many objects and arrays can be reached from one, and how many fields and elements those have. */
    private static long[] reached(Object from) throws Exception {
        Set<Object> known = Collections.newSetFromMap(new IdentityHashMap<>());
        Deque<Object> open = new ArrayDeque<>();
        open.push(from);
        long places = 0;
        while (!open.isEmpty()) {
            Object one = open.pop();
            if (known.add(one)) {
                places += one.getClass().isArray() ? elements(one, open) : fields(one, open);
            }
        }
        return new long[] {known.size(), places};
    }

    private static int elements(Object array, Deque<Object> open) {
        boolean numbers = array.getClass().getComponentType().isPrimitive();
        for (int i = 0; i < Array.getLength(array) && !numbers; i++) {
            push(open, Array.get(array, i));
        }
        return Array.getLength(array);
    }

    private static int fields(Object one, Deque<Object> open) throws Exception {
        int many = 0;
        for (Field f : one.getClass().getDeclaredFields()) {
            if (!Modifier.isStatic(f.getModifiers())) {
                many++;
                f.setAccessible(true);
                if (!f.getType().isPrimitive()) {
                    push(open, f.get(one));
                }
            }
        }
        return many;
    }

    private static void push(Deque<Object> open, Object one) {
        if (one != null) {
            open.push(one);
        }
    }

    private static void use(FeatherCourt x, int what) {
        switch (what) {
            case 0: x.fine(0, 0); break;
            case 1: x.hold(x.count(5) % 3); break;
            case 2: x.quiltOf(400, 0); break;
            case 3: x.bald(1); break;
            case 4: x.payments(); break;
            case 5: x.warm(200); break;
            case 6: x.weeks(100); break;
            case 7: x.did(0, 50); break;
            case 8: x.stuffer(200, 0, 5000); break;
            case 9: x.read(); break;
            case 10: x.feed(0x67726f77, 0x3d313b20, 0x20202020, 0x20202020, 0x20202020); break;
            default: x.restore(x.hold(1) ? 1 : 0);
        }
    }
}
