import java.nio.charset.StandardCharsets;

/** What the tests share: answers held against those that are due, and texts put on the tape. */
final class Check {
    static final int NONE = FeatherCourt.NONE;
    private static int wrong = 0;
    private static int all = 0;

    private Check() {
    }

    static void due(String call, long got, long want) {
        all++;
        if (got != want) {
            wrong++;
            System.out.println(call + " answered " + got + ", due is " + want);
        }
    }

    static void due(String call, boolean got, boolean want) {
        due(call, got ? 1 : 0, want ? 1 : 0);
    }

    static void feed(FeatherCourt x, String text) {
        byte[] bytes = text.getBytes(StandardCharsets.ISO_8859_1);
        int rest = (20 - bytes.length % 20) % 20;
        for (int at = 0; at < bytes.length; at += 20) {
            int[] four = new int[5];
            for (int i = 0; i < 20; i++) {
                four[i / 4] = four[i / 4] << 8 | (at + i < bytes.length ? bytes[at + i] & 255 : 0);
            }
            x.feed(four[0], four[1], four[2], four[3], four[4]);
        }
        x.back(rest);
    }

    /** A new object that has read a text, which must be without a fault. */
    static FeatherCourt court(String text) {
        FeatherCourt x = new FeatherCourt();
        feed(x, text);
        due("read " + text, x.read(), 0);
        return x;
    }

    /** The text must have this fault at this byte. */
    static void fault(String text, int fault, int place) {
        FeatherCourt x = new FeatherCourt();
        feed(x, text);
        due("read " + text, x.read(), fault);
        due("place in " + text, x.place(), place);
        due("bytes left of " + text, x.count(8), 0);
    }

    static void close(String name) {
        System.out.println(name + ": " + (wrong == 0 ? all + " answers as due" : wrong + " answers not as due"));
        if (wrong != 0) {
            System.exit(1);
        }
    }
}
