import java.util.ArrayDeque;
import java.util.ArrayList;
import java.util.Arrays;
import java.util.Deque;
import java.util.HashMap;
import java.util.LinkedHashMap;
import java.util.List;
import java.util.Map;
import java.util.regex.Matcher;
import java.util.regex.Pattern;

/**
 * The document told a second time, as slowly and plainly as it goes: each thing done keeps a copy of all that was,
 * and what would be is done on a copy. FuzzTest holds FeatherCourt against it.
 */
final class Model {
    static final int NONE = -1;
    private static final List<String> WORDS = Arrays.asList("man", "deed", "fine", "grow", "warm", "vote", "cold",
        "moult", "if", "then", "else", "have", "times", "week", "wind", "chest", "rank");
    private static final List<String> VARS = WORDS.subList(11, 17);

    // ---- what a text tells ----

    static final class DividedByZero extends Exception {
        private static final long serialVersionUID = 1L;
    }

    interface Tree {
        int value(Map<String, Integer> seen) throws DividedByZero;
    }

    /** The ifs of a law, four trees each but the last E: left, right, then; and the E behind all. */
    static final class Law {
        final List<Tree[]> ifs = new ArrayList<>();
        Tree last;

        int tells(Map<String, Integer> seen) {
            try {
                for (Tree[] one : ifs) {
                    if (one[0].value(seen) < one[1].value(seen)) {
                        return one[2].value(seen);
                    }
                }
                return last.value(seen);
            } catch (DividedByZero e) {
                return 0;
            }
        }
    }

    static final class Text {
        final Map<String, Integer> men = new LinkedHashMap<>();
        final Map<String, Integer> deeds = new LinkedHashMap<>();
        final Map<String, Law> fines = new HashMap<>();
        final Map<String, Law> votes = new HashMap<>();
        Law grow = lawOf("= 0 ;");
        Law warm = lawOf("= have - wind ;");
        List<Integer> cold = new ArrayList<>();
        int moult = 0;

        Law fine(int deed) {
            return fines.getOrDefault(new ArrayList<>(deeds.keySet()).get(deed), lawOf("= 10 ;"));
        }

        Law vote(int man) {
            return votes.getOrDefault(new ArrayList<>(men.keySet()).get(man), lawOf("= have ;"));
        }
    }

    static Law lawOf(String text) {
        List<Token> tokens = tokens(text.getBytes(java.nio.charset.StandardCharsets.ISO_8859_1));
        return new Taker(tokens).law();
    }

    // ---- tokens and faults ----

    static final class Token {
        final String says;
        final String kind;
        final int at;

        Token(String says, String kind, int at) {
            this.says = says;
            this.kind = kind;
            this.at = at;
        }
    }

    private static final Pattern PIECE = Pattern.compile("[a-z]+|[0-9]+|[^\\t\\n\\r ]", Pattern.DOTALL);

    static List<Token> tokens(byte[] bytes) {
        String text = new String(bytes, java.nio.charset.StandardCharsets.ISO_8859_1);
        List<Token> all = new ArrayList<>();
        Matcher m = PIECE.matcher(text);
        while (m.find()) {
            String says = m.group();
            String kind = "none";
            if (WORDS.contains(says)) {
                kind = VARS.contains(says) ? "VAR" : says;
            } else if (says.matches("[a-z]{1,8}")) {
                kind = "NAME";
            } else if (says.matches("[0-9]{1,4}")) {
                kind = "INT";
            } else if (says.matches("[;=+\\-*/<()]")) {
                kind = says;
            }
            all.add(new Token(says, kind, m.start()));
        }
        all.add(new Token("", "end", text.length()));
        return all;
    }

    /** The grammar as a table: what a symbol becomes in front of a token; null where no text goes on. */
    private static String becomes(String symbol, String kind) {
        boolean unit = kind.equals("INT") || kind.equals("VAR") || kind.equals("(");
        switch (symbol) {
            case "TEXT":
                return kind.equals("end") ? "" : "TELL TEXT";
            case "TELL":
                switch (kind) {
                    case "man": return "man NAME INT ;";
                    case "deed": return "deed NAME INT ;";
                    case "fine": return "fine NAME LAW ;";
                    case "grow": return "grow LAW ;";
                    case "warm": return "warm LAW ;";
                    case "vote": return "vote NAME LAW ;";
                    case "cold": return "cold INTS ;";
                    case "moult": return "moult INT ;";
                    default: return null;
                }
            case "INTS": return kind.equals("INT") ? "INT INTS" : "";
            case "LAW": return "= IFS E";
            case "IFS": return kind.equals("if") ? "if E < E then E else IFS" : "";
            case "E": return unit ? "PART PARTS" : null;
            case "PARTS": return kind.equals("+") || kind.equals("-") ? kind + " PART PARTS" : "";
            case "PART": return unit ? "UNIT UNITS" : null;
            case "UNITS": return kind.equals("*") || kind.equals("/") ? kind + " UNIT UNITS" : "";
            case "UNIT": return kind.equals("(") ? "( E )" : unit ? kind : null;
            default: return null;
        }
    }

    private static boolean isEnd(String symbol) {
        return !symbol.matches("TEXT|TELL|INTS|LAW|IFS|E|PARTS|PART|UNITS|UNIT");
    }

    /** The number of the token with which no text goes on; NONE if all is well. */
    private static int syntaxFault(List<Token> tokens) {
        Deque<String> stack = new ArrayDeque<>();
        stack.push("TEXT");
        for (int i = 0; i < tokens.size(); i++) {
            String kind = tokens.get(i).kind;
            while (!stack.isEmpty() && !isEnd(stack.peek())) {
                String body = becomes(stack.pop(), kind);
                if (body == null) {
                    return i;
                }
                String[] symbols = body.isEmpty() ? new String[0] : body.split(" ");
                for (int k = symbols.length - 1; k >= 0; k--) {
                    stack.push(symbols[k]);
                }
            }
            if (stack.isEmpty()) {
                return kind.equals("end") ? NONE : i;
            }
            if (!stack.pop().equals(kind)) {
                return i;
            }
        }
        return NONE;
    }

    /** The number of the first token for which there is no room, looked for in all of them by counting. */
    private static int roomFault(List<Token> tokens) {
        int men = 0;
        int deeds = 0;
        int ints = 0;
        int ifs = 0;
        int open = 0;
        String tell = "";
        boolean first = true;
        for (int i = 0; i < tokens.size(); i++) {
            String kind = tokens.get(i).kind;
            if (i == 400 && !kind.equals("end")) {
                return i;
            }
            if (first) {
                tell = kind;
                ints = 0;
                ifs = 0;
                open = 0;
                men += kind.equals("man") ? 1 : 0;
                deeds += kind.equals("deed") ? 1 : 0;
            }
            ints += tell.equals("cold") && kind.equals("INT") ? 1 : 0;
            ifs += kind.equals("if") ? 1 : 0;
            open += kind.equals("(") ? 1 : kind.equals(")") ? -1 : 0;
            if (men > 8 || deeds > 8 || ints > 12 || ifs > 4 || open > 6) {
                return i;
            }
            first = kind.equals(";");
        }
        return NONE;
    }

    /** Takes a text that has no fault of SYNTAX or ROOM. */
    static final class Taker {
        final List<Token> tokens;
        int at = 0;
        int fault = 0;
        int faultPlace = NONE;

        Taker(List<Token> tokens) {
            this.tokens = tokens;
        }

        Token next() {
            return tokens.get(at++);
        }

        String ahead() {
            return tokens.get(at).kind;
        }

        void fault(boolean isOne, int number, Token where) {
            if (isOne && fault == 0) {
                fault = number;
                faultPlace = where.at;
            }
        }

        int number(int least, int most) {
            Token token = next();
            int n = Integer.parseInt(token.says);
            fault(n < least || n > most, 5, token);
            return n;
        }

        Text text() {
            Text text = new Text();
            while (!ahead().equals("end")) {
                String tell = next().kind;
                switch (tell) {
                    case "man":
                    case "deed": {
                        Token name = next();
                        fault(text.men.containsKey(name.says) || text.deeds.containsKey(name.says), 3, name);
                        (tell.equals("man") ? text.men : text.deeds).put(name.says, number(0, tell.equals("man") ? 999 : 99));
                        break;
                    }
                    case "fine": {
                        Token name = next();
                        fault(!text.deeds.containsKey(name.says), 4, name);
                        text.fines.put(name.says, law());
                        break;
                    }
                    case "vote": {
                        Token name = next();
                        fault(!text.men.containsKey(name.says), 4, name);
                        text.votes.put(name.says, law());
                        break;
                    }
                    case "grow": text.grow = law(); break;
                    case "warm": text.warm = law(); break;
                    case "moult": text.moult = number(1, 99); break;
                    default: {
                        text.cold = new ArrayList<>();
                        while (ahead().equals("INT")) {
                            text.cold.add(number(0, 999));
                        }
                    }
                }
                next();
            }
            return text;
        }

        Law law() {
            Law law = new Law();
            next();
            while (ahead().equals("if")) {
                Tree[] one = new Tree[3];
                for (int i = 0; i < 3; i++) {
                    next();
                    one[i] = e();
                }
                next();
                law.ifs.add(one);
            }
            law.last = e();
            return law;
        }

        Tree e() {
            Tree tree = part();
            while (ahead().equals("+") || ahead().equals("-")) {
                tree = join(next().says, tree, part());
            }
            return tree;
        }

        Tree part() {
            Tree tree = unit();
            while (ahead().equals("*") || ahead().equals("/")) {
                tree = join(next().says, tree, unit());
            }
            return tree;
        }

        Tree unit() {
            Token token = next();
            if (token.kind.equals("(")) {
                Tree tree = e();
                next();
                return tree;
            }
            if (token.kind.equals("INT")) {
                int n = Integer.parseInt(token.says);
                return seen -> n;
            }
            return seen -> seen.get(token.says);
        }

        static Tree join(String sign, Tree left, Tree right) {
            return seen -> {
                long a = left.value(seen);
                long b = right.value(seen);
                switch (sign) {
                    case "+": return (int) (a + b);
                    case "-": return (int) (a - b);
                    case "*": return (int) (a * b);
                    default:
                        if (b == 0) {
                            throw new DividedByZero();
                        }
                        return (int) (a / b);
                }
            };
        }
    }

    // ---- what is ----

    static final class Entry implements Cloneable {
        int man, deed, week, plucked;
        boolean appealed;

        @Override
        public Entry clone() {
            try {
                return (Entry) super.clone();
            } catch (CloneNotSupportedException e) {
                throw new AssertionError(e);
            }
        }
    }

    static final class Village {
        /** Row 8 is the chest. */
        int[][] on = new int[9][8];
        int[][] owes = new int[8][8];
        int[][] times = new int[8][8];
        List<Entry> entries = new ArrayList<>();
        int week = 0;

        Village copy() {
            Village other = new Village();
            for (int i = 0; i < 9; i++) {
                other.on[i] = on[i].clone();
            }
            for (int i = 0; i < 8; i++) {
                other.owes[i] = owes[i].clone();
                other.times[i] = times[i].clone();
            }
            for (Entry e : entries) {
                other.entries.add(e.clone());
            }
            other.week = week;
            return other;
        }

        int have(int goose) {
            return Arrays.stream(on[goose]).sum();
        }

        /** One feather after the other. */
        void pluck(int goose, int to, int first, int n) {
            for (int i = 0; i < n; i++) {
                int grew = on[goose][first] > 0 ? first : 0;
                while (on[goose][grew] == 0) {
                    grew++;
                }
                on[goose][grew]--;
                on[to][grew]++;
            }
        }
    }

    private final java.io.ByteArrayOutputStream tape = new java.io.ByteArrayOutputStream();
    private Text text = new Text();
    private Village now = new Village();
    private final Deque<Village> past = new ArrayDeque<>();
    private final Village[] slots = new Village[3];
    private final List<int[]> told = new ArrayList<>();
    private int faultPlace = NONE;

    private int men() {
        return text.men.size();
    }

    private int deeds() {
        return text.deeds.size();
    }

    private boolean isMan(int m) {
        return m >= 0 && m < men();
    }

    private boolean isDeed(int d) {
        return d >= 0 && d < deeds();
    }

    private void keep() {
        past.push(now.copy());
        if (past.size() > 25) {
            past.removeLast();
        }
    }

    private Map<String, Integer> seen(Village v, int man, int times) {
        Map<String, Integer> seen = new HashMap<>();
        seen.put("have", v.have(man));
        seen.put("times", times);
        seen.put("week", v.week);
        seen.put("wind", text.cold.isEmpty() ? 0 : text.cold.get(v.week % text.cold.size()));
        seen.put("chest", v.have(8));
        seen.put("rank", man);
        return seen;
    }

    private Map<String, Integer> seen(Village v, int man) {
        return seen(v, man, Arrays.stream(v.times[man]).sum());
    }

    private static int held(int n) {
        return n < 0 ? 0 : n > 999 ? 999 : n;
    }

    private int fineOf(Village v, int man, int deed) {
        return held(text.fine(deed).tells(seen(v, man, v.times[man][deed])));
    }

    private boolean isWarm(Village v, int man) {
        return text.warm.tells(seen(v, man)) > 0;
    }

    private int votesFor(Village v, int voter) {
        int best = 0;
        int[] tells = new int[men()];
        for (int m = 0; m < men(); m++) {
            tells[m] = text.vote(voter).tells(seen(v, m));
            if (tells[m] > tells[best]) {
                best = m;
            }
        }
        return best;
    }

    private void oneWeek(Village v) {
        for (int m = 0; m < men(); m++) {
            int grows = held(text.grow.tells(seen(v, m)));
            while (grows > 0 && v.have(m) < 9999) {
                v.on[m][m]++;
                grows--;
            }
        }
        if (text.moult > 0 && (v.week + 1) % text.moult == 0) {
            v.times = new int[8][8];
        }
        v.week++;
    }

    // ---- the face ----

    int feed(int a, int b, int c, int d, int e) {
        if (tape.size() + 20 > 2000) {
            return NONE;
        }
        for (int n : new int[] {a, b, c, d, e}) {
            byte[] four = java.nio.ByteBuffer.allocate(4).putInt(n).array();
            tape.write(four, 0, 4);
        }
        return tape.size();
    }

    int back(int n) {
        if (n < 0 || n > tape.size()) {
            return NONE;
        }
        byte[] all = tape.toByteArray();
        tape.reset();
        tape.write(all, 0, all.length - n);
        return tape.size();
    }

    int read() {
        List<Token> tokens = tokens(tape.toByteArray());
        tape.reset();
        int syntax = syntaxFault(tokens);
        int room = roomFault(tokens);
        if (syntax != NONE && (room == NONE || syntax <= room)) {
            faultPlace = tokens.get(syntax).at;
            return 1;
        }
        if (room != NONE) {
            faultPlace = tokens.get(room).at;
            return 2;
        }
        Taker taker = new Taker(tokens);
        Text next = taker.text();
        faultPlace = taker.faultPlace;
        if (taker.fault != 0) {
            return taker.fault;
        }
        text = next;
        now = new Village();
        int m = 0;
        for (int feathers : text.men.values()) {
            now.on[m][m] = feathers;
            m++;
        }
        past.clear();
        told.clear();
        Arrays.fill(slots, null);
        return 0;
    }

    int place() {
        return faultPlace;
    }

    int man(int man, int what) {
        if (!isMan(man)) {
            return NONE;
        }
        switch (what) {
            case 0: return now.have(man);
            case 1: return now.on[man][man];
            case 2: return Arrays.stream(now.times[man]).sum();
            case 3: {
                int net = 0;
                for (int o = 0; o < men(); o++) {
                    net += now.owes[o][man] - now.owes[man][o];
                }
                return net;
            }
            case 4: return isWarm(now, man) ? 1 : 0;
            case 5: return votesFor(now, man);
            case 6: {
                int away = 0;
                for (int g = 0; g < 9; g++) {
                    away += g == man ? 0 : now.on[g][man];
                }
                return away;
            }
            default: return NONE;
        }
    }

    int led(int goose, int from) {
        if (!isMan(from)) {
            return NONE;
        }
        return goose == NONE ? now.on[8][from] : isMan(goose) ? now.on[goose][from] : NONE;
    }

    int debt(int man, int to) {
        return isMan(man) && isMan(to) && man != to ? now.owes[man][to] : NONE;
    }

    int tariff(int man, int deed) {
        return isMan(man) && isDeed(deed) ? fineOf(now, man, deed) : NONE;
    }

    int fine(int man, int deed) {
        if (!isMan(man) || !isDeed(deed)) {
            return NONE;
        }
        if (now.entries.size() == 300) {
            return -2;
        }
        keep();
        Entry e = new Entry();
        e.man = man;
        e.deed = deed;
        e.week = now.week;
        e.plucked = Math.min(fineOf(now, man, deed), now.have(man));
        now.pluck(man, 8, man, e.plucked);
        now.entries.add(e);
        now.times[man][deed]++;
        return e.plucked;
    }

    int entry(int i, int what) {
        if (i < 0 || i >= now.entries.size() || what < 0 || what > 4) {
            return NONE;
        }
        Entry e = now.entries.get(i);
        return new int[] {e.man, e.deed, e.week, e.plucked, e.appealed ? 1 : 0}[what];
    }

    int appeal(int i) {
        if (i < 0 || i >= now.entries.size()) {
            return NONE;
        }
        if (now.entries.get(i).appealed || now.have(now.entries.get(i).man) == 0) {
            return -2;
        }
        keep();
        Entry e = now.entries.get(i);
        e.appealed = true;
        now.pluck(e.man, 8, e.man, 1);
        int comes = Math.min(e.plucked / 2, now.have(8));
        now.pluck(8, e.man, e.man, comes);
        return comes;
    }

    private boolean canStuff(int from, int to, int n) {
        return isMan(from) && isMan(to) && from != to && n > 0 && now.have(from) >= n
            && (long) now.have(to) + n <= 9999;
    }

    boolean stuff(int from, int to, int n) {
        if (!canStuff(from, to, n)) {
            return false;
        }
        keep();
        now.pluck(from, to, from, n);
        return true;
    }

    boolean lend(int from, int to, int n) {
        if (!canStuff(from, to, n)) {
            return false;
        }
        keep();
        now.pluck(from, to, from, n);
        now.owes[to][from] += n;
        return true;
    }

    int repay(int man, int to, int n) {
        if (!isMan(man) || !isMan(to) || man == to) {
            return NONE;
        }
        int paid = Math.min(n, Math.min(now.owes[man][to], now.have(man)));
        if (!canStuff(man, to, paid)) {
            return NONE;
        }
        keep();
        now.pluck(man, to, man, paid);
        now.owes[man][to] -= paid;
        return paid;
    }

    int weeks(int n) {
        if (n < 0 || n > 100) {
            return NONE;
        }
        if (n > 0) {
            keep();
        }
        for (int i = 0; i < n; i++) {
            oneWeek(now);
        }
        return now.week;
    }

    boolean undo() {
        if (past.isEmpty()) {
            return false;
        }
        now = past.pop();
        return true;
    }

    int payments() {
        int[] nets = new int[men()];
        for (int m = 0; m < men(); m++) {
            nets[m] = man(m, 3);
        }
        return fewest(nets, 0);
    }

    /** The first who is not even yet is made even by a payment from or to a later one, whichever is best. */
    private static int fewest(int[] nets, int from) {
        while (from < nets.length && nets[from] == 0) {
            from++;
        }
        if (from == nets.length) {
            return 0;
        }
        int best = 1000;
        for (int o = from + 1; o < nets.length; o++) {
            if ((long) nets[from] * nets[o] < 0) {
                nets[o] += nets[from];
                best = Math.min(best, 1 + fewest(nets, from + 1));
                nets[o] -= nets[from];
            }
        }
        return best;
    }

    int warmBy(int man) {
        if (!isMan(man)) {
            return NONE;
        }
        Village v = now.copy();
        for (int k = 0; k <= 200; k++) {
            if (isWarm(v, man)) {
                return k;
            }
            oneWeek(v);
        }
        return -2;
    }

    int warm(int n) {
        if (n < 0 || n > 200) {
            return NONE;
        }
        Village v = now.copy();
        for (int k = 0; k < n; k++) {
            oneWeek(v);
        }
        int bits = 0;
        for (int m = 0; m < men(); m++) {
            bits |= isWarm(v, m) ? 1 << m : 0;
        }
        return bits;
    }

    /** The best way to get so many from the men from one on: guilt, feathers, deeds of each; null: none. */
    private int[] best(int man, int need, int[][] fines, int[] guilts, Map<Integer, int[]> known) {
        if (man == men()) {
            return need > 0 ? null : new int[2];
        }
        int key = man * 1000 + need;
        if (known.containsKey(key)) {
            return known.get(key);
        }
        int[] best = null;
        for (int set = 0; set < 1 << deeds(); set++) {
            int come = 0;
            int guilt = 0;
            for (int d = 0; d < deeds(); d++) {
                if ((set >> d & 1) == 1) {
                    come += fines[man][d];
                    guilt += guilts[d];
                }
            }
            come = Math.min(come, now.have(man));
            int[] rest = best(man + 1, Math.max(0, need - come), fines, guilts, known);
            if (rest != null && (best == null || guilt + rest[0] < best[0])) {
                best = new int[rest.length + 1];
                best[0] = guilt + rest[0];
                best[1] = come + rest[1];
                best[2] = set;
                System.arraycopy(rest, 2, best, 3, rest.length - 2);
            }
        }
        known.put(key, best);
        return best;
    }

    private int[] quiltFor(int n) {
        int[][] fines = new int[men()][deeds()];
        for (int m = 0; m < men(); m++) {
            for (int d = 0; d < deeds(); d++) {
                fines[m][d] = fineOf(now, m, d);
            }
        }
        int[] guilts = text.deeds.values().stream().mapToInt(g -> g).toArray();
        return best(0, n, fines, guilts, new HashMap<>());
    }

    int quilt(int n, int what) {
        if (n < 1 || n > 400 || what < 0 || what > 1) {
            return NONE;
        }
        int[] q = quiltFor(n);
        return q == null ? -2 : q[what];
    }

    int quiltOf(int n, int man) {
        if (n < 1 || n > 400 || !isMan(man)) {
            return NONE;
        }
        int[] q = quiltFor(n);
        return q == null ? -2 : q[2 + man];
    }

    private int[] election(Village v) {
        int[] votes = new int[men()];
        for (int m = 0; m < men(); m++) {
            votes[votesFor(v, m)]++;
        }
        int best = 0;
        for (int m = 0; m < men(); m++) {
            if (votes[m] > votes[best] || votes[m] == votes[best] && v.have(m) < v.have(best)) {
                best = m;
            }
        }
        return new int[] {best, votes[best]};
    }

    int elected(int what) {
        if (what < 0 || what > 1) {
            return NONE;
        }
        return men() == 0 ? -2 : election(now)[what];
    }

    int bald(int man) {
        if (!isMan(man)) {
            return NONE;
        }
        Village v = now.copy();
        int all = v.have(man);
        for (int k = 0; k <= all; k++) {
            v.on[man] = new int[8];
            v.on[man][man] = all - k;
            if (election(v)[0] == man) {
                return k;
            }
        }
        return -2;
    }

    /** Rows, then the bits of what was done in all. */
    private int[] rows(int man, int n) {
        int[] fines = new int[deeds()];
        for (int d = 0; d < deeds(); d++) {
            fines[d] = fineOf(now, man, d);
        }
        int rows = 0;
        int sure = (1 << deeds()) - 1;
        for (int row = 0; row < 1 << 2 * deeds(); row++) {
            int sum = 0;
            int done = 0;
            for (int d = 0; d < deeds(); d++) {
                int often = row >> 2 * d & 3;
                sum += often * fines[d];
                done |= often > 0 ? 1 << d : 0;
            }
            if (sum == n) {
                rows++;
                sure &= done;
            }
        }
        return new int[] {rows, rows == 0 ? 0 : sure};
    }

    int did(int man, int n) {
        return isMan(man) && n >= 0 && n <= 9999 ? rows(man, n)[0] : NONE;
    }

    int surely(int man, int n) {
        return isMan(man) && n >= 0 && n <= 9999 ? rows(man, n)[1] : NONE;
    }

    int tell(int set, int many) {
        if (told.size() == 20 || set < 1 || set >= 1 << men() || many < 0 || many > 9999) {
            return NONE;
        }
        told.add(new int[] {set, many});
        return told.size() - 1;
    }

    int forget() {
        int n = told.size();
        told.clear();
        return n;
    }

    private boolean isSo(Village v, int[] test) {
        int foreign = 0;
        for (int g = 0; g < men(); g++) {
            for (int from = 0; from < men(); from++) {
                foreign += (test[0] >> g & 1) == 1 && from != g ? v.on[g][from] : 0;
            }
        }
        return foreign == test[1];
    }

    int stuffer(int most, int k, int i) {
        if (most < 1 || most > 200 || k < 0 || k > told.size() || i < -1) {
            return NONE;
        }
        List<Integer> ways = new ArrayList<>();
        for (int from = 0; from < men(); from++) {
            for (int to = 0; to < men(); to++) {
                Village v = now.copy();
                for (int n = 1; n <= most && from != to && v.on[from][from] > 0; n++) {
                    v.on[from][from]--;
                    v.on[to][from]++;
                    boolean allSo = true;
                    for (int[] test : told.subList(0, k)) {
                        allSo &= isSo(v, test);
                    }
                    if (allSo) {
                        ways.add(10000 * from + 1000 * to + n);
                    }
                }
            }
        }
        return i == NONE ? ways.size() : i < ways.size() ? ways.get(i) : NONE;
    }

    boolean hold(int slot) {
        if (slot < 0 || slot > 2) {
            return false;
        }
        slots[slot] = now.copy();
        return true;
    }

    boolean restore(int slot) {
        if (slot < 0 || slot > 2 || slots[slot] == null) {
            return false;
        }
        now = slots[slot].copy();
        past.clear();
        return true;
    }

    int count(int what) {
        switch (what) {
            case 0: return men();
            case 1: return deeds();
            case 2: return now.week;
            case 3: return now.have(8);
            case 4: {
                int all = 0;
                for (int m = 0; m < men(); m++) {
                    all += now.have(m);
                }
                return all;
            }
            case 5: return now.entries.size();
            case 6: return text.cold.size();
            case 7: return text.moult;
            case 8: return tape.size();
            case 9: return past.size();
            case 10: return told.size();
            case 11: return (int) Arrays.stream(slots).filter(s -> s != null).count();
            default: return NONE;
        }
    }
}
