import java.lang.reflect.Array;
import java.lang.reflect.Field;
import java.lang.reflect.Member;
import java.lang.reflect.Method;
import java.lang.reflect.Modifier;
import java.nio.file.Files;
import java.nio.file.Path;
import java.util.ArrayDeque;
import java.util.Collections;
import java.util.Deque;
import java.util.IdentityHashMap;
import java.util.Set;
import java.util.TreeSet;
import java.util.regex.Matcher;
import java.util.regex.Pattern;

/** What ../shared/LANGUAGE.md asks of the class, as far as a test can see it, and the room that one object takes. */
public final class RulesTest {
    private static final String FACE = "appeal back bald count debt did elected entry feed fine forget hold led lend man"
        + " payments place quilt quiltOf read repay restore stuff stuffer surely tariff tell undo warm warmBy weeks";
    private static final String[] BANNED = {"\\bthrow\\b", "\\btry\\b", "\\bcatch\\b", "\\bsynchronized\\b", "\\bassert\\b",
        "\\bimport\\b", "\\bpackage\\b", "->", "::", "\\bequals\\b", "\\bhashCode\\b", "\\btoString\\b", "\\bSystem\\.(?!arraycopy)",
        "\\bprotected\\b", "\\bvar\\b", "\\bobject\\b(?=\\.)"};

    public static void main(String[] args) throws Exception {
        face();
        source(Files.readString(Path.of("src/main/java/FeatherCourt.java")));
        room();
        Check.close("RulesTest");
    }

    private static void face() {
        Set<String> names = new TreeSet<>();
        for (Method m : FeatherCourt.class.getDeclaredMethods()) {
            if (Modifier.isPublic(m.getModifiers())) {
                names.add(m.getName());
            } else {
                seen(m);
                Check.due("rule 1: a private method named " + m.getName(), (" " + FACE + " ").contains(" " + m.getName() + " "), false);
            }
        }
        Check.due("rule 1: the face is " + names, String.join(" ", names).equals(FACE), true);
        for (Field f : FeatherCourt.class.getDeclaredFields()) {
            if (!f.getName().equals("NONE")) {
                seen(f);
            }
        }
        Class<?>[] inside = FeatherCourt.class.getDeclaredClasses();
        Check.due("rule 11: classes", inside.length < 12, true);
        for (Class<?> c : inside) {
            Check.due("rule 2: static " + c, Modifier.isStatic(c.getModifiers()), true);
            Check.due("rule 11: fields of " + c, ownFields(c) <= 20, true);
        }
        Check.due("rule 11: fields", ownFields(FeatherCourt.class) <= 20, true);
    }

    private static void seen(Member m) {
        Check.due("rule 1: private " + m.getName(), Modifier.isPrivate(m.getModifiers()), true);
    }

    private static int ownFields(Class<?> c) {
        int many = 0;
        for (Field f : c.getDeclaredFields()) {
            Check.due("rule 5: final " + f, !Modifier.isStatic(f.getModifiers()) || Modifier.isFinal(f.getModifiers()), true);
            many += Modifier.isStatic(f.getModifiers()) ? 0 : 1;
        }
        return many;
    }

    private static void source(String source) {
        String code = source.replaceAll("(?s)/\\*.*?\\*/", "").replaceAll("//[^\n]*", "");
        for (String banned : BANNED) {
            Matcher m = Pattern.compile(banned).matcher(code);
            Check.due("rules 4 and 6: " + banned, m.find(), false);
        }
        int lines = 0;
        boolean inside = false;
        for (String line : source.split("\n")) {
            boolean opens = line.matches("( {4}| {8})[a-zA-Z].*\\) \\{");
            lines = opens ? 0 : lines + 1;
            inside = opens || inside && !line.matches("( {4}| {8})\\}");
            Check.due("rule 11: lines of a method at " + line, !inside || lines <= 60, true);
        }
    }

    /** Objects, fields and elements that can be reached from an object in use. */
    private static void room() throws Exception {
        FeatherCourt x = Check.court("man a 99;man b 99;deed d 1;");
        long[] first = room(x);
        Check.due("room: " + first[1] + " fields and elements", first[1] <= 14000, true);
        Check.due("room: " + first[0] + " objects", first[0] <= 1000, true);
        for (int i = 0; i < 100; i++) {
            use(x);
        }
        long[] last = room(x);
        Check.due("room: " + last[1] + " fields and elements, three slots held", last[1] <= 17000, true);
    }

    private static void use(FeatherCourt x) {
        x.fine(0, 0);
        x.lend(0, 1, 1);
        x.weeks(1);
        x.hold(x.count(5) % 3);
        x.quilt(5, 0);
    }

    private static long[] room(Object from) throws Exception {
        Set<Object> known = Collections.newSetFromMap(new IdentityHashMap<>());
        Deque<Object> open = new ArrayDeque<>();
        open.push(from);
        long places = 0;
        while (!open.isEmpty()) {
            Object one = open.pop();
            if (!known.add(one)) {
                continue;
            }
            if (one.getClass().isArray()) {
                places += Array.getLength(one);
                for (int i = 0; i < Array.getLength(one) && !one.getClass().getComponentType().isPrimitive(); i++) {
                    push(open, Array.get(one, i));
                }
                continue;
            }
            for (Field f : one.getClass().getDeclaredFields()) {
                if (!Modifier.isStatic(f.getModifiers())) {
                    places++;
                    f.setAccessible(true);
                    if (!f.getType().isPrimitive()) {
                        push(open, f.get(one));
                    }
                }
            }
        }
        return new long[] {known.size(), places};
    }

    private static void push(Deque<Object> open, Object one) {
        if (one != null) {
            open.push(one);
        }
    }
}
