import java.nio.charset.StandardCharsets;

/** What the tests share: answers held against those that are due, and texts put on the tape. */
final class Check {
    static final int NONE = FeatherCourt.NONE;
    static final int MIN = Integer.MIN_VALUE;
    static final int MAX = Integer.MAX_VALUE;
    private static int wrong = 0;
    private static int all = 0;
    private static int edges = 0;
    private static String edge = "";

    private Check() {
    }

    /** What comes from here on tests this edge alone, which the document names. */
    static void edge(String says) {
        edge = says + ": ";
        edges++;
    }

    static void due(String call, long got, long want) {
        all++;
        if (got != want) {
            wrong++;
            System.out.println(edge + call + " answered " + got + ", due is " + want);
        }
    }

    static void due(String call, boolean got, boolean want) {
        due(call, got ? 1 : 0, want ? 1 : 0);
    }

    static void due(String call, String got, String want) {
        all++;
        if (!got.equals(want)) {
            wrong++;
            System.out.println(edge + call + " tells" + got + "\n  due is" + want);
        }
    }

    static void feed(FeatherCourt x, String text) {
        byte[] bytes = text.getBytes(StandardCharsets.ISO_8859_1);
        int rest = (20 - bytes.length % 20) % 20;
        for (int at = 0; at < bytes.length; at += 20) {
            int[] four = new int[5];
            for (int i = 0; i < 20; i++) {
                four[i / 4] = four[i / 4] << 8 | (at + i < bytes.length ? bytes[at + i] & 255 : 0);
            }
            x.feed(four[0], four[1], four[2], four[3], four[4]);
        }
        x.back(rest);
    }

    /** A new object that has read a text, which must be without a fault. */
    static FeatherCourt court(String text) {
        FeatherCourt x = new FeatherCourt();
        read(x, text);
        return x;
    }

    static void read(FeatherCourt x, String text) {
        feed(x, text);
        due("read " + brief(text), x.read(), 0);
        due("place in " + brief(text), x.place(), NONE);
    }

    private static String brief(String text) {
        return text.length() <= 100 ? text : text.substring(0, 40) + " .. " + text.substring(text.length() - 40);
    }

    /** The text must have this fault at this byte. */
    static void fault(String text, int fault, int place) {
        fault(new FeatherCourt(), text, fault, place);
    }

    static void fault(FeatherCourt x, String text, int fault, int place) {
        feed(x, text);
        due("read " + brief(text), x.read(), fault);
        due("place in " + brief(text), x.place(), place);
        due("bytes left of " + brief(text), x.count(8), 0);
    }

    /** A text that tells men by these feathers, named ma, mb and so on. */
    static String men(int... feathers) {
        return tells("man m", "", feathers);
    }

    /** A text that tells deeds by these fines, named da, db and so on, each of a guilt of 1. */
    static String deeds(int... fines) {
        int[] guilts = new int[fines.length];
        java.util.Arrays.fill(guilts, 1);
        return tells("deed d", "", guilts) + tells("fine d", "=", fines);
    }

    private static String tells(String begin, String sign, int... numbers) {
        StringBuilder text = new StringBuilder();
        for (int i = 0; i < numbers.length; i++) {
            text.append(begin).append((char) ('a' + i)).append(' ').append(sign).append(numbers[i]).append(';');
        }
        return text.toString();
    }

    /** Wrong arguments: those that are told, and some that are far from all that can be. */
    static int[] far(int... near) {
        int[] all = java.util.Arrays.copyOf(near, near.length + 4);
        System.arraycopy(new int[] {MIN, -1000000, 1000000, MAX}, 0, all, near.length, 4);
        return all;
    }

    /** Everything of the village that can be asked; the village must be small, for an object has but 512 calls. */
    static String all(FeatherCourt x) {
        StringBuilder all = new StringBuilder(law(x)).append(" | slots ").append(x.count(11));
        return all.append(" tape ").append(x.count(8)).append(" told ").append(x.count(10)).append(" undo ")
            .append(x.count(9)).append(' ').append(village(x)).toString();
    }

    private static String law(FeatherCourt x) {
        StringBuilder all = new StringBuilder(" cold ").append(x.count(6)).append(" moult ").append(x.count(7));
        for (int man = 0; man < x.count(0); man++) {
            all.append(" warm by ").append(x.warmBy(man));
        }
        return all.append(" warm in 7 ").append(x.warm(7)).append(" quilt ").append(x.quilt(1, 0)).toString();
    }

    /** What a slot holds, and what follows from it. */
    static String village(FeatherCourt x) {
        int men = x.count(0);
        int deeds = x.count(1);
        StringBuilder all = new StringBuilder("week ").append(x.count(2));
        for (int man = 0; man < men; man++) {
            all.append(" | man");
            for (int what = 0; what <= 6; what++) {
                all.append(' ').append(x.man(man, what));
            }
            for (int other = 0; other < men; other++) {
                all.append(' ').append(x.led(man, other)).append(other == man ? 0 : x.debt(man, other));
            }
            for (int deed = 0; deed < deeds; deed++) {
                all.append(' ').append(x.tariff(man, deed));
            }
            all.append(' ').append(x.led(NONE, man));
        }
        for (int i = 0; i < x.count(5); i++) {
            all.append(" | entry");
            for (int what = 0; what <= 4; what++) {
                all.append(' ').append(x.entry(i, what));
            }
        }
        return all.toString();
    }

    /** The call is refused by this answer, and nothing happens. */
    static void refused(FeatherCourt x, String call, java.util.function.LongSupplier refused, long want) {
        String before = all(x);
        due(call, refused.getAsLong(), want);
        due("behind " + call + " all", all(x), before);
    }

    static void close(String name) {
        String of = edges > 0 ? " of " + edges + " edges" : "";
        System.out.println(name + ": " + (wrong == 0 ? all + " answers" + of + " as due" : wrong + " answers not as due"));
        if (wrong != 0) {
            System.exit(1);
        }
    }
}
