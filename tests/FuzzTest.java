import java.nio.charset.StandardCharsets;
import java.util.ArrayList;
import java.util.List;

/** Long runs of calls, drawn from a row of numbers that is always the same, on FeatherCourt and on Model alike. */
public final class FuzzTest {
    private static final int MOST_CALLS = 512;

    private long drawn;
    private FeatherCourt court;
    private Model model;
    /** Runs that mostly fine, up to the last entry there may be, and runs in which all lend to all. */
    private boolean fining;
    private boolean debtors;
    private int calls;
    private int wrong;
    private final List<String> told = new ArrayList<>();

    public static void main(String[] args) {
        int runs = args.length > 0 ? Integer.parseInt(args[0]) : 300;
        int first = args.length > 1 ? Integer.parseInt(args[1]) : 1;
        FuzzTest test = new FuzzTest();
        for (int run = first; run < first + runs && test.wrong == 0; run++) {
            test.go(run);
        }
        System.out.println(test.wrong == 0 ? runs + " runs, all answers alike" : "answers differ");
        if (test.wrong != 0) {
            System.exit(1);
        }
    }

    // ---- numbers ----

    private int below(int n) {
        drawn = drawn * 6364136223846793005L + 1442695040888963407L;
        return (int) Math.floorMod(drawn >>> 33, (long) n);
    }

    private boolean oneOf(int n) {
        return below(n) == 0;
    }

    /** Mostly a number from least to most, sometimes one just outside, sometimes one far away. */
    private int near(int least, int most) {
        switch (below(24)) {
            case 0: return least - 1;
            case 1: return most + 1;
            case 2: return new int[] {Integer.MIN_VALUE, Integer.MAX_VALUE, -2, 1 << 20, 10000}[below(5)];
            default: return most < least ? least : least + below(most - least + 1);
        }
    }

    private int man() {
        return near(0, model.count(0) - 1);
    }

    private int deed() {
        return near(0, model.count(1) - 1);
    }

    private int some() {
        switch (below(4)) {
            case 0: return near(1, 3);
            case 1: return near(1, 20);
            case 2: return near(1, 300);
            default: return near(0, 9999);
        }
    }

    // ---- texts ----

    private String expression(int depth) {
        int kind = below(depth <= 0 ? 2 : 5);
        switch (kind) {
            case 0: return String.valueOf(oneOf(6) ? below(10000) : below(12));
            case 1: return new String[] {"have", "have", "times", "week", "wind", "chest", "rank"}[below(7)];
            case 2: return "(" + expression(depth - 1) + ")";
            default: return expression(depth - 1) + blank() + "+-*/-+".charAt(below(6)) + blank() + expression(depth - 1);
        }
    }

    private String blank() {
        return new String[] {"", " ", " ", "  ", "\n", "\t", "\r"}[below(7)];
    }

    private String law() {
        StringBuilder law = new StringBuilder("=");
        int ifs = oneOf(3) ? below(4) + (oneOf(8) ? 2 : 0) : 0;
        for (int i = 0; i < ifs; i++) {
            law.append(" if ").append(expression(2)).append('<').append(expression(2));
            law.append(" then ").append(expression(2)).append(" else ");
        }
        if (oneOf(5)) {
            String usual = new String[] {"0-have", "K-have", "have-K", "have*K-week", "K-have*have", "times*K", "K/have",
                "rank*K-have", "K", "have/K", "(have-K)*(K-have)"}[below(11)];
            return law + usual.replace("K", String.valueOf(below(30)));
        }
        if (oneOf(12)) {
            int open = 5 + below(3);
            return law + "(".repeat(open) + expression(1) + ")".repeat(open);
        }
        return law.append(blank()).append(expression(below(5))).toString();
    }

    private String name(int i) {
        return oneOf(60) ? new String[] {"if", "abcdefgh", "abcdefghi", "A", "manman", "rank"}[below(6)]
            : "" + (char) ('a' + i) + (oneOf(2) ? "" : "x");
    }

    private String oldName(List<String> names, List<String> others) {
        List<String> from = others.isEmpty() || !oneOf(100) ? names : others;
        return from.get(below(from.size()));
    }

    private int guiltOrFeathers(int usual, int most) {
        return oneOf(60) ? most + below(2) : below(oneOf(4) ? most + 1 : usual);
    }

    private String text() {
        List<String> tells = new ArrayList<>();
        List<String> men = new ArrayList<>();
        List<String> deeds = new ArrayList<>();
        int many = below(oneOf(10) ? 10 : 9);
        for (int i = 0; i < many; i++) {
            men.add(name(i));
            tells.add("man " + men.get(i) + " " + guiltOrFeathers(60, 999));
        }
        many = below(oneOf(10) ? 10 : 9);
        for (int i = 0; i < many; i++) {
            deeds.add(name(i + (oneOf(60) ? 0 : 12)));
            tells.add("deed " + deeds.get(i) + " " + guiltOrFeathers(20, 99));
        }
        many = below(14);
        for (int i = 0; i < many; i++) {
            switch (below(9)) {
                case 0: case 1: case 2:
                    tells.add(deeds.isEmpty() ? "grow" + law() : "fine " + oldName(deeds, men) + law());
                    break;
                case 3: case 4:
                    tells.add(men.isEmpty() ? "warm" + law() : "vote " + oldName(men, deeds) + law());
                    break;
                case 5: tells.add("grow" + law()); break;
                case 6: tells.add("warm" + law()); break;
                default: tells.add(coldOrMoult());
            }
        }
        if (oneOf(60) && tells.size() > 1) {
            tells.add(tells.remove(below(tells.size())));
        }
        StringBuilder text = new StringBuilder();
        for (String tell : tells) {
            text.append(blank()).append(tell).append(blank()).append(oneOf(300) ? "" : ";");
        }
        return oneOf(6) ? broken(text) : text.append(blank()).toString();
    }

    private String coldOrMoult() {
        if (oneOf(2)) {
            return "moult " + (oneOf(30) ? near(1, 99) : 1 + below(9));
        }
        StringBuilder cold = new StringBuilder("cold");
        int weeks = below(oneOf(10) ? 15 : 6);
        for (int i = 0; i < weeks; i++) {
            cold.append(' ').append(oneOf(40) ? below(1100) : below(30));
        }
        return cold.toString();
    }

    private String broken(StringBuilder text) {
        String bits = " ;=+-*/<()if.A,\u00e901 man deed\0";
        int times = 1 + below(2);
        for (int i = 0; i < times && text.length() > 0; i++) {
            int at = below(text.length());
            switch (below(4)) {
                case 0: text.deleteCharAt(at); break;
                case 1: text.setLength(at); break;
                case 2: text.insert(at, bits.charAt(below(bits.length()))); break;
                default: text.setCharAt(at, bits.charAt(below(bits.length())));
            }
        }
        return text.toString();
    }

    /** Many tokens, so that the 401st comes up. */
    private String longText() {
        StringBuilder text = new StringBuilder("man a 30;deed d 1;grow=");
        int joints = 190 + below(8);
        for (int i = 0; i < joints; i++) {
            text.append(below(10)).append("+-*".charAt(below(3)));
        }
        return text.append(oneOf(2) ? "1;" : "1").append(oneOf(3) ? ";" : "").append(oneOf(2) ? "cold;" : "").toString();
    }

    // ---- calls ----

    private void same(String call, long got, long due) {
        told.add(call + " = " + got);
        calls++;
        if (got != due) {
            wrong++;
            for (String one : told) {
                System.out.println(one);
            }
            System.out.println(call + " answered " + got + ", due is " + due);
        }
    }

    private static long bit(boolean b) {
        return b ? 1 : 0;
    }

    private void readText(String text) {
        byte[] bytes = text.getBytes(StandardCharsets.ISO_8859_1);
        int rest = (20 - bytes.length % 20) % 20;
        int[] four = new int[5];
        for (int at = 0; at < bytes.length; at += 20) {
            for (int i = 0; i < 20; i++) {
                four[i / 4] = four[i / 4] << 8 | (at + i < bytes.length ? bytes[at + i] & 255 : ' ');
            }
            same("feed " + text.length(), court.feed(four[0], four[1], four[2], four[3], four[4]),
                model.feed(four[0], four[1], four[2], four[3], four[4]));
        }
        if (!oneOf(20)) {
            same("back " + rest, court.back(rest), model.back(rest));
        }
        same("read [" + text + "]", court.read(), model.read());
        same("place", court.place(), model.place());
    }

    private void go(int run) {
        drawn = run * 7919L;
        court = new FeatherCourt();
        model = new Model();
        calls = 0;
        told.clear();
        told.add("run " + run);
        int style = below(8);
        fining = style == 2;
        debtors = style == 3;
        if (!oneOf(10)) {
            readText(oneOf(25) ? longText() : text());
        }
        while (calls < MOST_CALLS - 105 && wrong == 0) {
            if (oneOf(style == 0 ? 10 : fining ? 500 : 60)) {
                readText(oneOf(20) ? longText() : text());
            } else if (fining ? !oneOf(10) : oneOf(2) || style == 1) {
                change();
            } else {
                ask();
            }
        }
    }

    private void change() {
        int a = man();
        int b = man();
        int n = some();
        if (fining && !oneOf(15)) {
            a = below(Math.max(1, model.count(0)));
            b = below(Math.max(1, model.count(1)));
            same("fine " + a + " " + b, court.fine(a, b), model.fine(a, b));
            return;
        }
        if (debtors && oneOf(2)) {
            n = below(4) + 1;
            same("lend " + a + " " + b + " " + n, bit(court.lend(a, b, n)), bit(model.lend(a, b, n)));
            return;
        }
        switch (below(17)) {
            case 0: case 1: case 2: case 3: case 4:
                b = deed();
                same("fine " + a + " " + b, court.fine(a, b), model.fine(a, b));
                break;
            case 5: case 6: case 7:
                a = near(0, model.count(5) - 1);
                same("appeal " + a, court.appeal(a), model.appeal(a));
                break;
            case 8: same("stuff " + a + " " + b + " " + n, bit(court.stuff(a, b, n)), bit(model.stuff(a, b, n))); break;
            case 9: case 10:
                same("lend " + a + " " + b + " " + n, bit(court.lend(a, b, n)), bit(model.lend(a, b, n)));
                break;
            case 11: case 12:
                for (int i = 0; i < 64 && model.debt(a, b) < 1; i++) {
                    a = i % 8;
                    b = i / 8;
                }
                same("repay " + a + " " + b + " " + n, court.repay(a, b, n), model.repay(a, b, n));
                break;
            case 13:
                n = oneOf(3) ? near(0, 100) : near(0, 5);
                same("weeks " + n, court.weeks(n), model.weeks(n));
                break;
            case 14: same("undo", bit(court.undo()), bit(model.undo())); break;
            case 15: {
                int set = near(1, (1 << model.count(0)) - 1);
                n = oneOf(2) ? below(5) : near(0, 9999);
                same("tell " + set + " " + n, court.tell(set, n), model.tell(set, n));
                break;
            }
            default: slot();
        }
    }

    private void slot() {
        int slot = near(0, 2);
        if (oneOf(2)) {
            same("hold " + slot, bit(court.hold(slot)), bit(model.hold(slot)));
        } else if (oneOf(4)) {
            same("forget", court.forget(), model.forget());
        } else {
            same("restore " + slot, bit(court.restore(slot)), bit(model.restore(slot)));
        }
    }

    private void ask() {
        int a = man();
        int b = man();
        int n;
        switch (below(19)) {
            case 0: case 1: n = near(0, 6); same("man " + a + " " + n, court.man(a, n), model.man(a, n)); break;
            case 2: a = near(-1, model.count(0) - 1); same("led " + a + " " + b, court.led(a, b), model.led(a, b)); break;
            case 3: same("debt " + a + " " + b, court.debt(a, b), model.debt(a, b)); break;
            case 4: b = deed(); same("tariff " + a + " " + b, court.tariff(a, b), model.tariff(a, b)); break;
            case 5:
                a = near(0, model.count(5) - 1);
                n = near(0, 4);
                same("entry " + a + " " + n, court.entry(a, n), model.entry(a, n));
                break;
            case 6: same("payments", court.payments(), model.payments()); break;
            case 7: same("warmBy " + a, court.warmBy(a), model.warmBy(a)); break;
            case 8: n = near(0, 200); same("warm " + n, court.warm(n), model.warm(n)); break;
            case 9: quilt(a); break;
            case 10: n = near(0, 1); same("elected " + n, court.elected(n), model.elected(n)); break;
            case 11:
                if (model.count(4) < 600 || oneOf(10)) {
                    same("bald " + a, court.bald(a), model.bald(a));
                }
                break;
            case 12: case 13: rows(a); break;
            case 14: case 15: {
                int most = oneOf(3) ? near(1, 200) : near(1, 9);
                int k = oneOf(2) ? near(0, 2) : near(0, model.count(10));
                n = near(-1, oneOf(2) ? 5 : 1000);
                same("stuffer " + most + " " + k + " " + n, court.stuffer(most, k, n), model.stuffer(most, k, n));
                break;
            }
            case 16: same("place", court.place(), model.place()); break;
            default: n = near(0, 11); same("count " + n, court.count(n), model.count(n));
        }
    }

    private void quilt(int a) {
        int n = oneOf(2) ? near(1, 40) : near(1, 400);
        int what = near(0, 1);
        if (oneOf(2)) {
            same("quilt " + n + " " + what, court.quilt(n, what), model.quilt(n, what));
        } else {
            same("quiltOf " + n + " " + a, court.quiltOf(n, a), model.quiltOf(n, a));
        }
    }

    private void rows(int a) {
        int n = oneOf(3) ? near(0, 9999) : near(0, 60);
        if (oneOf(2)) {
            same("did " + a + " " + n, court.did(a, n), model.did(a, n));
        } else {
            same("surely " + a + " " + n, court.surely(a, n), model.surely(a, n));
        }
    }
}
