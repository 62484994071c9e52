/** A village court that fines by plucking one's own goose; ../shared/DOC.md says what each method promises. */
public final class FeatherCourt {
    public static final int NONE = -1;

    /** The answer for what is well asked but cannot be. */
    private static final int NOT_SO = -2;
    /** The most men and the most deeds; a row of feathers, debts or times has one place for each. */
    private static final int MOST = 8;
    /** The row of feathers behind those of the geese. */
    private static final int CHEST = MOST;
    private static final int ROWS = MOST + 1;
    private static final int SETS = 1 << MOST;
    private static final int FULL_GOOSE = 9999;
    private static final int MOST_TOLD_BY_LAW = 999;
    private static final int MOST_ENTRIES = 300;
    private static final int MOST_WEEKS = 100;
    private static final int MOST_WEEKS_AHEAD = 200;
    private static final int MOST_LACKED = 9999;
    private static final int MOST_OF_A_DEED = 3;
    private static final int MOST_STUFFED = 200;
    private static final int MOST_TESTS = 20;
    private static final int MOST_TESTED = 9999;
    private static final int MOST_UNDONE = 25;
    private static final int SLOTS = 3;

    private final Tape tape;
    private final Reader reader;
    private Program law;
    /** A text is read into this one, so that a fault leaves the laws in force alone. */
    private Program spare;
    private final State now;
    /** Made when first held: most objects never hold anything, and a state is large. */
    private final State[] slots;
    private final boolean[] held;
    private final Past past;
    private final Tests tests;
    private final Quilt sewing;
    private final Poll poll;
    private final int[] fines;
    private final int[] always;
    private final int[] netSums;
    private final int[] netGroups;

    public FeatherCourt() {
        tape = new Tape();
        reader = new Reader();
        law = new Program();
        spare = new Program();
        now = new State();
        slots = new State[SLOTS];
        held = new boolean[SLOTS];
        past = new Past();
        tests = new Tests();
        sewing = new Quilt();
        poll = new Poll();
        fines = new int[MOST];
        always = new int[1];
        netSums = new int[SETS];
        netGroups = new int[SETS];
    }

    // ---- the tape and its text ----

    public int feed(int a, int b, int c, int d, int e) {
        if (!tape.hasRoomFor(20)) {
            return NONE;
        }
        tape.append(a);
        tape.append(b);
        tape.append(c);
        tape.append(d);
        tape.append(e);
        return tape.length;
    }

    public int back(int n) {
        if (n < 0 || n > tape.length) {
            return NONE;
        }
        tape.length -= n;
        return tape.length;
    }

    public int read() {
        tape.scan();
        reader.parse(tape, spare);
        tape.length = 0;
        if (reader.fault == 0) {
            Program old = law;
            law = spare;
            spare = old;
            beginAnew();
        }
        return reader.fault;
    }

    private void beginAnew() {
        now.empty();
        for (int man = 0; man < law.men; man++) {
            now.feathers[man * MOST + man] = law.feathers[man];
        }
        past.size = 0;
        tests.size = 0;
        for (int i = 0; i < SLOTS; i++) {
            held[i] = false;
        }
    }

    public int place() {
        return reader.fault == 0 ? NONE : reader.faultPlace;
    }

    // ---- what is ----

    private boolean isMan(int man) {
        return man >= 0 && man < law.men;
    }

    private boolean isDeed(int deed) {
        return deed >= 0 && deed < law.deeds;
    }

    private boolean areTwoMen(int one, int other) {
        return isMan(one) && isMan(other) && one != other;
    }

    private boolean isEntry(int i) {
        return i >= 0 && i < now.entries;
    }

    public int man(int man, int what) {
        if (!isMan(man)) {
            return NONE;
        }
        switch (what) {
            case 0: return now.inRow(man);
            case 1: return now.feathers[man * MOST + man];
            case 2: return now.timesOf(man);
            case 3: return now.net(man);
            case 4: return isWarm(man, now.inRow(man), now.week) ? 1 : 0;
            case 5: return choiceOf(man);
            case 6: return now.grownOn(man) - now.feathers[man * MOST + man];
            default: return NONE;
        }
    }

    private int choiceOf(int man) {
        likeAll();
        return poll.choiceOf(man);
    }

    public int led(int goose, int from) {
        if (!isMan(from) || (goose != NONE && !isMan(goose))) {
            return NONE;
        }
        int row = goose == NONE ? CHEST : goose;
        return now.feathers[row * MOST + from];
    }

    public int debt(int man, int to) {
        return areTwoMen(man, to) ? now.debts[man * MOST + to] : NONE;
    }

    public int tariff(int man, int deed) {
        return isMan(man) && isDeed(deed) ? fineNow(man, deed) : NONE;
    }

    private int fineNow(int man, int deed) {
        law.see(now.inRow(man), now.times[man * MOST + deed], now.week, now.inRow(CHEST), man);
        return withinLaw(law.worth(law.fineAt[deed]));
    }

    private static int withinLaw(int told) {
        return Math.max(0, Math.min(MOST_TOLD_BY_LAW, told));
    }

    public int entry(int i, int what) {
        if (!isEntry(i)) {
            return NONE;
        }
        switch (what) {
            case 0: return now.entryMan(i);
            case 1: return now.entryDeed(i);
            case 2: return now.entryWeek[i];
            case 3: return now.entryPlucked(i);
            case 4: return now.isAppealed(i) ? 1 : 0;
            default: return NONE;
        }
    }

    public int count(int what) {
        switch (what) {
            case 0: return law.men;
            case 1: return law.deeds;
            case 2: return now.week;
            case 3: return now.inRow(CHEST);
            case 4: return onAllGeese();
            case 5: return now.entries;
            case 6: return law.colds;
            case 7: return law.moult;
            case 8: return tape.length;
            case 9: return past.size;
            case 10: return tests.size;
            case 11: return slotsHeld();
            default: return NONE;
        }
    }

    private int onAllGeese() {
        int all = 0;
        for (int man = 0; man < law.men; man++) {
            all += now.inRow(man);
        }
        return all;
    }

    private int slotsHeld() {
        int many = 0;
        for (int i = 0; i < SLOTS; i++) {
            if (held[i]) {
                many++;
            }
        }
        return many;
    }

    // ---- what is done ----

    public int fine(int man, int deed) {
        if (!isMan(man) || !isDeed(deed)) {
            return NONE;
        }
        if (now.entries >= MOST_ENTRIES) {
            return NOT_SO;
        }
        int told = fineNow(man, deed);
        past.note(now);
        int plucked = now.pluck(man, CHEST, told);
        now.writeDown(man, deed, plucked);
        countTimes();
        return plucked;
    }

    /** Times follow from the entries and the week, so neither the past nor a slot has to keep them. */
    private void countTimes() {
        now.countTimes(law.moult > 0 ? now.week - now.week % law.moult : 0);
    }

    public int appeal(int i) {
        if (!isEntry(i)) {
            return NONE;
        }
        int man = now.entryMan(i);
        if (now.isAppealed(i) || now.inRow(man) == 0) {
            return NOT_SO;
        }
        past.note(now).appealed = i;
        now.setAppealed(i, true);
        now.pluck(man, CHEST, 1);
        return now.move(CHEST, man, man, now.entryPlucked(i) / 2);
    }

    public boolean stuff(int from, int to, int n) {
        if (!canStuff(from, to, n)) {
            return false;
        }
        past.note(now);
        now.pluck(from, to, n);
        return true;
    }

    private boolean canStuff(int from, int to, int n) {
        return areTwoMen(from, to) && n >= 1 && n <= now.inRow(from) && hasRoom(to, n);
    }

    private boolean hasRoom(int goose, int n) {
        return n <= FULL_GOOSE - now.inRow(goose);
    }

    public boolean lend(int from, int to, int n) {
        if (!canStuff(from, to, n)) {
            return false;
        }
        past.note(now).keepDebt(now, to * MOST + from);
        now.pluck(from, to, n);
        now.debts[to * MOST + from] += n;
        return true;
    }

    public int repay(int man, int to, int n) {
        if (!areTwoMen(man, to)) {
            return NONE;
        }
        int owed = man * MOST + to;
        int paid = Math.min(n, Math.min(now.debts[owed], now.inRow(man)));
        if (paid < 1 || !hasRoom(to, paid)) {
            return NONE;
        }
        past.note(now).keepDebt(now, owed);
        now.pluck(man, to, paid);
        now.debts[owed] -= paid;
        return paid;
    }

    public int weeks(int n) {
        if (n < 0 || n > MOST_WEEKS) {
            return NONE;
        }
        if (n > 0) {
            past.note(now);
            // Nothing that grows on one goose is seen by the law of another one, so each goes through all weeks alone.
            for (int man = 0; man < law.men; man++) {
                now.feathers[man * MOST + man] += haveBehind(man, n) - now.inRow(man);
            }
            now.week += n;
            countTimes();
        }
        return now.week;
    }

    public boolean undo() {
        if (!past.takeBack(now)) {
            return false;
        }
        countTimes();
        return true;
    }

    public boolean hold(int slot) {
        if (slot < 0 || slot >= SLOTS) {
            return false;
        }
        if (slots[slot] == null) {
            slots[slot] = new State();
        }
        slots[slot].copyFrom(now);
        held[slot] = true;
        return true;
    }

    public boolean restore(int slot) {
        if (slot < 0 || slot >= SLOTS || !held[slot] || slots[slot] == null) {
            return false;
        }
        now.copyFrom(slots[slot]);
        countTimes();
        past.size = 0;
        return true;
    }

    // ---- what would be ----

    /** Times of a man in a week that is still to come: 0 behind the next moult. */
    private int timesIn(int man, int week) {
        boolean moulted = law.moult > 0 && week / law.moult > now.week / law.moult;
        return moulted ? 0 : now.timesOf(man);
    }

    private int haveNext(int man, int have, int week) {
        law.see(have, timesIn(man, week), week, now.inRow(CHEST), man);
        int grows = withinLaw(law.worth(law.growAt[0]));
        return have + Math.max(0, Math.min(grows, FULL_GOOSE - have));
    }

    private int haveBehind(int man, int n) {
        int have = now.inRow(man);
        for (int k = 0; k < n; k++) {
            have = haveNext(man, have, now.week + k);
        }
        return have;
    }

    private boolean isWarm(int man, int have, int week) {
        law.see(have, timesIn(man, week), week, now.inRow(CHEST), man);
        return law.worth(law.warmAt[0]) > 0;
    }

    public int warmBy(int man) {
        if (!isMan(man)) {
            return NONE;
        }
        int have = now.inRow(man);
        for (int k = 0; k <= MOST_WEEKS_AHEAD; k++) {
            if (isWarm(man, have, now.week + k)) {
                return k;
            }
            have = haveNext(man, have, now.week + k);
        }
        return NOT_SO;
    }

    public int warm(int n) {
        if (n < 0 || n > MOST_WEEKS_AHEAD) {
            return NONE;
        }
        int geese = 0;
        for (int man = 0; man < law.men; man++) {
            if (isWarm(man, haveBehind(man, n), now.week + n)) {
                geese |= 1 << man;
            }
        }
        return geese;
    }

    /** Men in zero-sum groups need one payment less than they are; so the most groups make the fewest payments. */
    public int payments() {
        int all = 1 << law.men;
        for (int man = 0; man < law.men; man++) {
            int net = now.net(man);
            for (int set = 0; set < 1 << man; set++) {
                netSums[set | 1 << man] = netSums[set] + net;
            }
        }
        for (int set = 1; set < all; set++) {
            netGroups[set] = mostGroupsWithin(set) + (netSums[set] == 0 ? 1 : 0);
        }
        return law.men - netGroups[all - 1];
    }

    private int mostGroupsWithin(int set) {
        int most = 0;
        for (int man = 0; man < law.men; man++) {
            if ((set >> man & 1) == 1) {
                most = Math.max(most, netGroups[set ^ 1 << man]);
            }
        }
        return most;
    }

    public int quilt(int n, int what) {
        if (!isQuilt(n) || what < 0 || what > 1) {
            return NONE;
        }
        if (!sew(n)) {
            return NOT_SO;
        }
        return what == 0 ? sewing.guilt : sewing.feathers;
    }

    public int quiltOf(int n, int man) {
        if (!isQuilt(n) || !isMan(man)) {
            return NONE;
        }
        return sew(n) ? sewing.chosen[man] : NOT_SO;
    }

    private static boolean isQuilt(int n) {
        return n >= 1 && n <= Quilt.MOST_FEATHERS;
    }

    private boolean sew(int n) {
        for (int man = 0; man < law.men; man++) {
            sewing.haves[man] = now.inRow(man);
            for (int deed = 0; deed < law.deeds; deed++) {
                sewing.fines[man * MOST + deed] = fineNow(man, deed);
            }
        }
        return sewing.sew(law, n);
    }

    private void likeAll() {
        poll.men = law.men;
        for (int man = 0; man < law.men; man++) {
            like(man, now.inRow(man));
        }
    }

    /** What the vote of each man tells for this one, had his goose so many feathers. */
    private void like(int man, int have) {
        law.see(have, now.timesOf(man), now.week, now.inRow(CHEST), man);
        poll.haves[man] = have;
        for (int voter = 0; voter < law.men; voter++) {
            poll.likes[voter * MOST + man] = law.worth(law.voteAt[voter]);
        }
    }

    public int elected(int what) {
        if (what < 0 || what > 1) {
            return NONE;
        }
        if (law.men == 0) {
            return NOT_SO;
        }
        likeAll();
        int man = poll.elect();
        return what == 0 ? man : poll.votes[man];
    }

    public int bald(int man) {
        if (!isMan(man)) {
            return NONE;
        }
        likeAll();
        int all = now.inRow(man);
        for (int plucked = 0; plucked <= all; plucked++) {
            like(man, all - plucked);
            if (poll.elect() == man) {
                return plucked;
            }
        }
        return NOT_SO;
    }

    // ---- what one did ----

    public int did(int man, int n) {
        return isLack(man, n) ? countRowsOf(man, n) : NONE;
    }

    public int surely(int man, int n) {
        if (!isLack(man, n)) {
            return NONE;
        }
        return countRowsOf(man, n) == 0 ? 0 : always[0];
    }

    private boolean isLack(int man, int n) {
        return isMan(man) && n >= 0 && n <= MOST_LACKED;
    }

    private int countRowsOf(int man, int n) {
        for (int deed = 0; deed < law.deeds; deed++) {
            fines[deed] = fineNow(man, deed);
        }
        always[0] = (1 << law.deeds) - 1;
        return countRows(fines, law.deeds, 0, n, 0, always);
    }

    /** Rows of the deeds from one on that make up what is left; each takes out of always[0] what it has not done. */
    private static int countRows(int[] fines, int deeds, int deed, int left, int done, int[] always) {
        if (deed >= deeds || deed >= fines.length) {
            if (left != 0) {
                return 0;
            }
            always[0] &= done;
            return 1;
        }
        int rows = countRows(fines, deeds, deed + 1, left, done, always);
        for (int times = 1; times <= MOST_OF_A_DEED && times * fines[deed] <= left; times++) {
            rows += countRows(fines, deeds, deed + 1, left - times * fines[deed], done | 1 << deed, always);
        }
        return rows;
    }

    // ---- who was stuffed ----

    public int tell(int set, int many) {
        boolean isSet = set >= 1 && set < 1 << law.men;
        if (!isSet || many < 0 || many > MOST_TESTED || tests.size >= MOST_TESTS) {
            return NONE;
        }
        tests.sets[tests.size] = set;
        tests.many[tests.size] = many;
        tests.size++;
        return tests.size - 1;
    }

    public int forget() {
        int many = tests.size;
        tests.size = 0;
        return many;
    }

    public int stuffer(int most, int k, int i) {
        if (most < 1 || most > MOST_STUFFED || k < 0 || k > tests.size || i < NONE) {
            return NONE;
        }
        tests.lookAt(now, k);
        int ways = 0;
        for (int from = 0; from < law.men; from++) {
            int own = Math.min(most, now.feathers[from * MOST + from]);
            for (int to = 0; to < law.men; to++) {
                for (int many = 1; to != from && many <= own; many++) {
                    if (!tests.agree(k, to, many)) {
                        continue;
                    }
                    if (ways == i) {
                        return 10000 * from + 1000 * to + many;
                    }
                    ways++;
                }
            }
        }
        return i == NONE ? ways : NONE;
    }

    /** Geese, chest, debts, entries and the week: all that a slot holds. */
    private static final class State {
        /** What an appeal adds to the number of an entry, above its man and deed. */
        private static final int APPEALED = MOST * MOST;

        /** Row by row (each goose, then the chest): how many grew on which goose. */
        final int[] feathers = new int[ROWS * MOST];
        /** Row by row: what a man owes to each other one. */
        final int[] debts = new int[MOST * MOST];
        /** Row by row: how often a man was fined for each deed since the last moult. */
        final int[] times = new int[MOST * MOST];
        /** Feathers plucked, appeal, man and deed of an entry in one number: each slot has such a row, and room is dear. */
        final int[] entryWhat = new int[MOST_ENTRIES];
        final int[] entryWeek = new int[MOST_ENTRIES];
        int entries;
        int week;

        void empty() {
            for (int i = 0; i < feathers.length; i++) {
                feathers[i] = 0;
            }
            for (int i = 0; i < debts.length; i++) {
                debts[i] = 0;
            }
            for (int i = 0; i < times.length; i++) {
                times[i] = 0;
            }
            entries = 0;
            week = 0;
        }

        void copyFrom(State other) {
            System.arraycopy(other.feathers, 0, feathers, 0, feathers.length);
            System.arraycopy(other.debts, 0, debts, 0, debts.length);
            System.arraycopy(other.entryWhat, 0, entryWhat, 0, MOST_ENTRIES);
            System.arraycopy(other.entryWeek, 0, entryWeek, 0, MOST_ENTRIES);
            entries = other.entries;
            week = other.week;
        }

        int inRow(int row) {
            int all = 0;
            for (int from = 0; from < MOST; from++) {
                all += feathers[row * MOST + from];
            }
            return all;
        }

        int grownOn(int goose) {
            int all = 0;
            for (int row = 0; row < ROWS; row++) {
                all += feathers[row * MOST + goose];
            }
            return all;
        }

        int pluck(int goose, int to, int n) {
            return move(goose, to, goose, n);
        }

        /** Moves n feathers or all there are, those that grew on the first goose ahead of the others. */
        int move(int from, int to, int first, int n) {
            int left = n;
            for (int i = NONE; i < MOST; i++) {
                int grew = i == NONE ? first : i;
                int some = Math.min(left, feathers[from * MOST + grew]);
                feathers[from * MOST + grew] -= some;
                feathers[to * MOST + grew] += some;
                left -= some;
            }
            return n - left;
        }

        int timesOf(int man) {
            int all = 0;
            for (int deed = 0; deed < MOST; deed++) {
                all += times[man * MOST + deed];
            }
            return all;
        }

        void countTimes(int since) {
            for (int i = 0; i < times.length; i++) {
                times[i] = 0;
            }
            for (int i = 0; i < entries; i++) {
                if (entryWeek[i] >= since) {
                    times[entryMan(i) * MOST + entryDeed(i)]++;
                }
            }
        }

        int net(int man) {
            int all = 0;
            for (int other = 0; other < MOST; other++) {
                all += debts[other * MOST + man] - debts[man * MOST + other];
            }
            return all;
        }

        void writeDown(int man, int deed, int plucked) {
            if (entries < MOST_ENTRIES) {
                entryWhat[entries] = plucked * 2 * APPEALED + man * MOST + deed;
                entryWeek[entries] = week;
                entries++;
            }
        }

        int entryMan(int i) {
            return entryWhat[i] / MOST % MOST;
        }

        int entryDeed(int i) {
            return entryWhat[i] % MOST;
        }

        int entryPlucked(int i) {
            return entryWhat[i] / (2 * APPEALED);
        }

        boolean isAppealed(int i) {
            return entryWhat[i] / APPEALED % 2 == 1;
        }

        void setAppealed(int i, boolean appealed) {
            if (isAppealed(i) != appealed) {
                entryWhat[i] += appealed ? APPEALED : -APPEALED;
            }
        }
    }

    /** What was ahead of one thing done. Entries are only ever added, so their number is enough. */
    private static final class Done {
        final int[] feathers = new int[ROWS * MOST];
        int entries;
        int week;
        int debtAt;
        int debt;
        int appealed;

        void keep(State state) {
            System.arraycopy(state.feathers, 0, feathers, 0, feathers.length);
            entries = state.entries;
            week = state.week;
            debtAt = NONE;
            debt = 0;
            appealed = NONE;
        }

        void keepDebt(State state, int at) {
            debtAt = at;
            debt = state.debts[at];
        }

        void giveBack(State state) {
            System.arraycopy(feathers, 0, state.feathers, 0, feathers.length);
            state.entries = entries;
            state.week = week;
            if (debtAt >= 0) {
                state.debts[debtAt] = debt;
            }
            if (appealed >= 0) {
                state.setAppealed(appealed, false);
            }
        }
    }

    /** The last things done, round and round in one row, so that the oldest falls out by itself. */
    private static final class Past {
        final Done[] ring = new Done[MOST_UNDONE];
        int next;
        int size;

        Past() {
            for (int i = 0; i < MOST_UNDONE; i++) {
                ring[i] = new Done();
            }
        }

        Done note(State state) {
            Done done = ring[next];
            done.keep(state);
            next = (next + 1) % MOST_UNDONE;
            size = Math.min(size + 1, MOST_UNDONE);
            return done;
        }

        boolean takeBack(State state) {
            if (size == 0) {
                return false;
            }
            size--;
            next = (next + MOST_UNDONE - 1) % MOST_UNDONE;
            ring[next].giveBack(state);
            return true;
        }
    }

    /** The tests that are told. */
    private static final class Tests {
        final int[] sets = new int[MOST_TESTS];
        final int[] many = new int[MOST_TESTS];
        final int[] missing = new int[MOST_TESTS];
        int size;

        /** Notes how many feathers each of the first k tests tells beyond those that are there. */
        void lookAt(State state, int k) {
            for (int i = 0; i < k; i++) {
                missing[i] = many[i];
                for (int goose = 0; goose < MOST; goose++) {
                    if ((sets[i] >> goose & 1) == 1) {
                        missing[i] -= state.inRow(goose) - state.feathers[goose * MOST + goose];
                    }
                }
            }
        }

        boolean agree(int k, int to, int stuffed) {
            for (int i = 0; i < k; i++) {
                int more = (sets[i] >> to & 1) == 1 ? stuffed : 0;
                if (missing[i] != more) {
                    return false;
                }
            }
            return true;
        }
    }

    /** Who votes for whom, by what each man's vote tells for each. */
    private static final class Poll {
        final int[] likes = new int[MOST * MOST];
        final int[] haves = new int[MOST];
        final int[] votes = new int[MOST];
        int men;

        int choiceOf(int voter) {
            int choice = 0;
            for (int man = 1; man < men; man++) {
                if (likes[voter * MOST + man] > likes[voter * MOST + choice]) {
                    choice = man;
                }
            }
            return choice;
        }

        int elect() {
            for (int man = 0; man < men; man++) {
                votes[man] = 0;
            }
            for (int voter = 0; voter < men; voter++) {
                votes[choiceOf(voter)]++;
            }
            int first = 0;
            for (int man = 1; man < men; man++) {
                boolean alike = votes[man] == votes[first];
                if (votes[man] > votes[first] || alike && haves[man] < haves[first]) {
                    first = man;
                }
            }
            return first;
        }
    }

    /** The cheapest guilt for a quilt. */
    private static final class Quilt {
        static final int MOST_FEATHERS = 400;
        /** Above any sum of guilt, and far below what an int can hold. */
        private static final int TOO_MUCH = 1000000;

        final int[] fines = new int[MOST * MOST];
        final int[] haves = new int[MOST];
        /** Row by row: the least guilt by which the men from one on give so many feathers or more. */
        private final int[][] least = new int[MOST + 1][MOST_FEATHERS + 1];
        private final int[] guiltOf = new int[SETS];
        private final int[] comeBy = new int[SETS];
        /** The sets of deeds worth a look: what comes by each, from the least on, and its guilt. */
        private final int[] offerCome = new int[MOST_FEATHERS + 1];
        private final int[] offerGuilt = new int[MOST_FEATHERS + 1];
        final int[] chosen = new int[MOST];
        int guilt;
        int feathers;

        boolean sew(Program law, int n) {
            sumGuilt(law);
            for (int need = 0; need <= n; need++) {
                least[law.men][need] = need == 0 ? 0 : TOO_MUCH;
            }
            for (int man = law.men - 1; man >= 0; man--) {
                sumFines(man, law.deeds);
                int offers = gatherOffers(n, 1 << law.deeds);
                for (int need = 0; need <= n; need++) {
                    least[man][need] = leastGuilt(man, need, offers);
                }
            }
            guilt = least[0][n];
            if (guilt >= TOO_MUCH) {
                return false;
            }
            choose(law, n);
            return true;
        }

        private void choose(Program law, int n) {
            int need = n;
            feathers = 0;
            for (int man = 0; man < law.men; man++) {
                sumFines(man, law.deeds);
                int set = firstOfLeast(man, need, 1 << law.deeds);
                chosen[man] = set;
                feathers += comeBy[set];
                need = Math.max(0, need - comeBy[set]);
            }
        }

        private void sumGuilt(Program law) {
            for (int deed = 0; deed < law.deeds; deed++) {
                for (int set = 0; set < 1 << deed; set++) {
                    guiltOf[set | 1 << deed] = guiltOf[set] + law.guilt[deed];
                }
            }
        }

        private void sumFines(int man, int deeds) {
            for (int deed = 0; deed < deeds; deed++) {
                for (int set = 0; set < 1 << deed; set++) {
                    int sum = comeBy[set] + fines[man * MOST + deed];
                    comeBy[set | 1 << deed] = Math.min(sum, haves[man]);
                }
            }
        }

        /** Keeps of the sets of deeds only those than which none gives as much for as little guilt: far fewer. */
        private int gatherOffers(int n, int sets) {
            for (int come = 0; come <= n; come++) {
                offerGuilt[come] = TOO_MUCH;
            }
            for (int set = 0; set < sets; set++) {
                int come = Math.min(n, comeBy[set]);
                offerGuilt[come] = Math.min(offerGuilt[come], guiltOf[set]);
            }
            for (int come = n - 1; come >= 0; come--) {
                offerGuilt[come] = Math.min(offerGuilt[come], offerGuilt[come + 1]);
            }
            // An offer's place is never behind the one it is read from, so the row can be written over.
            int many = 0;
            for (int come = 0; come <= n; come++) {
                if (come == n || offerGuilt[come] < offerGuilt[come + 1]) {
                    offerCome[many] = come;
                    offerGuilt[many] = offerGuilt[come];
                    many++;
                }
            }
            return many;
        }

        private int leastGuilt(int man, int need, int offers) {
            int best = TOO_MUCH;
            for (int i = 0; i < offers; i++) {
                int rest = Math.max(0, need - offerCome[i]);
                best = Math.min(best, offerGuilt[i] + least[man + 1][rest]);
            }
            return best;
        }

        private int firstOfLeast(int man, int need, int sets) {
            for (int set = 0; set < sets; set++) {
                int rest = Math.max(0, need - comeBy[set]);
                if (guiltOf[set] + least[man + 1][rest] == least[man][need]) {
                    return set;
                }
            }
            return 0;
        }
    }

    /** What a text tells; its laws as rows of steps for a stack of numbers. */
    private static final class Program {
        static final int PUSH = 0;
        static final int GET = 1;
        static final int END = 2;
        /** Goes on behind the 'else' unless one is less than the other. */
        static final int UNLESS_LESS = 3;

        static final int HAVE = 0;
        static final int TIMES = 1;
        static final int WEEK = 2;
        static final int WIND = 3;
        static final int IN_CHEST = 4;
        static final int RANK = 5;

        static final int MOST_COLDS = 12;
        /** A token makes one step at most; the laws that nobody told need ten more. */
        private static final int MOST_STEPS = Tape.MOST_TOKENS + 16;

        final int[] step = new int[MOST_STEPS];
        final int[] with = new int[MOST_STEPS];
        int steps;
        int men;
        int deeds;
        int colds;
        int moult;
        final int[] feathers = new int[MOST];
        final int[] guilt = new int[MOST];
        final int[] cold = new int[MOST_COLDS];
        /** Where the steps of the laws begin, each in a row of its own, if it is but of one. */
        final int[] fineAt = new int[MOST];
        final int[] voteAt = new int[MOST];
        final int[] growAt = new int[1];
        final int[] warmAt = new int[1];
        private final int[] seen = new int[RANK + 1];
        /** Two operands wait at each of seven depths, one more at a '<'. */
        private final int[] stack = new int[32];

        /** Nothing told: the laws are those that hold if nobody tells others. */
        void empty() {
            steps = 0;
            men = 0;
            deeds = 0;
            colds = 0;
            moult = 0;
            int ten = emit(PUSH, 10);
            emit(END, 0);
            growAt[0] = emit(PUSH, 0);
            emit(END, 0);
            warmAt[0] = emit(GET, HAVE);
            emit(GET, WIND);
            emit('-', 0);
            emit(END, 0);
            int have = emit(GET, HAVE);
            emit(END, 0);
            for (int i = 0; i < MOST; i++) {
                fineAt[i] = ten;
                voteAt[i] = have;
            }
        }

        int emit(int what, int number) {
            if (steps >= MOST_STEPS) {
                return 0;
            }
            step[steps] = what;
            with[steps] = number;
            steps++;
            return steps - 1;
        }

        void see(int have, int times, int week, int chest, int rank) {
            seen[HAVE] = have;
            seen[TIMES] = times;
            seen[WEEK] = week;
            seen[WIND] = colds > 0 ? cold[week % colds] : 0;
            seen[IN_CHEST] = chest;
            seen[RANK] = rank;
        }

        /** What the law that begins at a step tells of what is seen. */
        int worth(int start) {
            int top = 0;
            int goOn = start;
            for (int at = start; at < steps; at++) {
                if (at < goOn) {
                    continue;
                }
                int what = step[at];
                if (what == PUSH || what == GET) {
                    if (top >= stack.length) {
                        return 0;
                    }
                    stack[top] = what == PUSH ? with[at] : seen[with[at]];
                    top++;
                    continue;
                }
                if (what == END) {
                    return top > 0 ? stack[top - 1] : 0;
                }
                if (top < 2) {
                    return 0;
                }
                top -= 2;
                int left = stack[top];
                int right = stack[top + 1];
                if (what == UNLESS_LESS) {
                    goOn = left < right ? goOn : with[at];
                    continue;
                }
                if (what == '/' && right == 0) {
                    return 0;
                }
                stack[top] = reckon(what, left, right);
                top++;
            }
            return 0;
        }

        private static int reckon(int sign, int left, int right) {
            switch (sign) {
                case '+': return left + right;
                case '-': return left - right;
                case '*': return left * right;
                case '/': return right == 0 ? 0 : left / right;
                default: return 0;
            }
        }
    }

    /** The bytes of a text, and the tokens that stand on it. */
    private static final class Tape {
        static final int MOST_BYTES = 2000;
        static final int MOST_TOKENS = 400;
        private static final int MOST_LETTERS = 8;
        private static final int MOST_DIGITS = 4;

        /** Kinds of tokens; a sign's kind is its byte, and a word's is WORD and its number in WORDS. */
        static final int NO_TOKEN = -1;
        static final int TEXT_END = 0;
        static final int NAME = 1;
        static final int INT = 2;
        static final int WORD = 256;
        private static final int WORD_COUNT = 17;
        private static final String WORDS =
            "man deed fine grow warm vote cold moult if then else have times week wind chest rank ";
        private static final String SIGNS = ";=+-*/<()";

        final byte[] bytes = new byte[MOST_BYTES];
        int length;
        /** Of each token its kind, its first byte, and its number or letters; one more than there may be. */
        final int[] kinds = new int[MOST_TOKENS + 1];
        final int[] starts = new int[MOST_TOKENS + 1];
        final long[] values = new long[MOST_TOKENS + 1];
        private final long[] words = new long[WORD_COUNT];
        private int at;

        Tape() {
            int word = 0;
            for (int i = 0; i < WORDS.length() && word < WORD_COUNT; i++) {
                char c = WORDS.charAt(i);
                if (c == ' ') {
                    word++;
                } else {
                    words[word] = withLetter(words[word], c);
                }
            }
        }

        boolean hasRoomFor(int more) {
            return length <= MOST_BYTES - more;
        }

        void append(int fourBytes) {
            for (int shift = 24; shift >= 0 && length < MOST_BYTES; shift -= 8) {
                bytes[length] = (byte) (fourBytes >> shift);
                length++;
            }
        }

        /** Notes the tokens up to the first thing behind which no text goes on, whatever it tells. */
        void scan() {
            at = 0;
            int kind = NAME;
            for (int i = 0; i <= MOST_TOKENS && kind != NO_TOKEN && kind != TEXT_END; i++) {
                while (at < length && isBlank(byteAt(at))) {
                    at++;
                }
                starts[i] = at;
                values[i] = 0;
                kind = scanToken(i);
                kinds[i] = kind;
            }
        }

        private int scanToken(int i) {
            int c = byteAt(at);
            if (c == NONE) {
                return TEXT_END;
            }
            if (isLetter(c)) {
                return scanLetters(i);
            }
            if (isDigit(c)) {
                return scanDigits(i);
            }
            at++;
            return SIGNS.indexOf((char) c) >= 0 ? c : NO_TOKEN;
        }

        private int scanLetters(int i) {
            long letters = 0;
            int start = at;
            for (; at < length && isLetter(byteAt(at)); at++) {
                letters = withLetter(letters, byteAt(at));
            }
            if (at - start > MOST_LETTERS) {
                return NO_TOKEN;
            }
            values[i] = letters;
            for (int word = 0; word < WORD_COUNT; word++) {
                if (words[word] == letters) {
                    return WORD + word;
                }
            }
            return NAME;
        }

        private int scanDigits(int i) {
            int start = at;
            int number = 0;
            for (; at < length && isDigit(byteAt(at)); at++) {
                number = number * 10 + byteAt(at) - '0';
            }
            values[i] = number;
            return at - start > MOST_DIGITS ? NO_TOKEN : INT;
        }

        /** Five bits a letter, none of them 0: no two names of eight letters at most are alike. */
        private static long withLetter(long letters, int c) {
            return letters << 5 | c - 'a' + 1;
        }

        private int byteAt(int i) {
            return i >= 0 && i < length && i < MOST_BYTES ? bytes[i] & 255 : NONE;
        }

        private static boolean isBlank(int c) {
            return c == ' ' || c == 9 || c == 10 || c == 13;
        }

        private static boolean isLetter(int c) {
            return c >= 'a' && c <= 'z';
        }

        private static boolean isDigit(int c) {
            return c >= '0' && c <= '9';
        }
    }

    /** Takes the text of a tape, token by token, into a program. */
    private static final class Reader {
        private static final int MOST_IFS = 4;
        private static final int MOST_DEPTH = 6;
        private static final int MOST_FEATHERS = 999;
        private static final int MOST_GUILT = 99;
        private static final int MOST_COLD = 999;
        private static final int MOST_MOULT = 99;

        private static final int SYNTAX = 1;
        private static final int ROOM = 2;
        private static final int TWICE = 3;
        private static final int NO_SUCH_NAME = 4;
        private static final int WRONG = 5;

        /** In the order of Tape's words. */
        private static final int MAN = Tape.WORD;
        private static final int DEED = Tape.WORD + 1;
        private static final int FINE = Tape.WORD + 2;
        private static final int GROW = Tape.WORD + 3;
        private static final int WARM = Tape.WORD + 4;
        private static final int VOTE = Tape.WORD + 5;
        private static final int COLD = Tape.WORD + 6;
        private static final int MOULT = Tape.WORD + 7;
        private static final int IF = Tape.WORD + 8;
        private static final int THEN = Tape.WORD + 9;
        private static final int ELSE = Tape.WORD + 10;
        /** The words for what a law sees, which stand in the order of Program's numbers. */
        private static final int HAVE = Tape.WORD + 11;
        private static final int RANK = HAVE + Program.RANK;

        private final long[] manNames = new long[MOST];
        private final long[] deedNames = new long[MOST];
        private Tape tape;
        private Program into;
        /** The token ahead: its number on the tape, and its kind. */
        private int ahead;
        private int kind;
        /** What the last int taken says, or which one the last name taken is. */
        private int taken;
        /** The fault of the latest text, 0 without one, and its byte. */
        int fault;
        int faultPlace;
        /** The first fault that counts only in a text without SYNTAX and ROOM. */
        private int laterFault;
        private int laterPlace;

        void parse(Tape text, Program program) {
            tape = text;
            into = program;
            into.empty();
            ahead = 0;
            kind = text.kinds[0];
            fault = 0;
            laterFault = 0;
            boolean good = true;
            for (int i = 0; i < Tape.MOST_TOKENS && good && kind != Tape.TEXT_END; i++) {
                good = takeTell();
            }
            if (good && laterFault != 0) {
                fault = laterFault;
                faultPlace = laterPlace;
            }
        }

        // ---- tokens and faults ----

        private boolean fail(int what) {
            fault = what;
            faultPlace = tape.starts[ahead];
            return false;
        }

        private void failLater(int what, int token) {
            if (laterFault == 0) {
                laterFault = what;
                laterPlace = tape.starts[token];
            }
        }

        private boolean take(int wanted) {
            boolean fits = kind == wanted;
            if (!fits || ahead >= Tape.MOST_TOKENS) {
                fault = fits ? ROOM : SYNTAX;
                faultPlace = tape.starts[ahead];
                return false;
            }
            ahead++;
            kind = tape.kinds[ahead];
            return true;
        }

        private boolean takeInt(int least, int most) {
            int token = ahead;
            if (!take(Tape.INT)) {
                return false;
            }
            taken = (int) tape.values[token];
            if (taken < least || taken > most) {
                failLater(WRONG, token);
            }
            return true;
        }

        private boolean takeNewName(long[] names, int many) {
            int token = ahead;
            if (!take(Tape.NAME)) {
                return false;
            }
            long name = tape.values[token];
            if (find(manNames, into.men, name) != NONE || find(deedNames, into.deeds, name) != NONE) {
                failLater(TWICE, token);
            }
            if (many >= 0 && many < names.length) {
                names[many] = name;
            }
            return true;
        }

        private boolean takeOldName(long[] names, int many) {
            int token = ahead;
            if (!take(Tape.NAME)) {
                return false;
            }
            taken = find(names, many, tape.values[token]);
            if (taken == NONE) {
                failLater(NO_SUCH_NAME, token);
            }
            return true;
        }

        private static int find(long[] names, int many, long name) {
            for (int i = 0; i < many && i < names.length; i++) {
                if (names[i] == name) {
                    return i;
                }
            }
            return NONE;
        }

        // ---- tells ----

        private boolean takeTell() {
            switch (kind) {
                case MAN: return takeMan();
                case DEED: return takeDeed();
                case FINE: return take(FINE) && takeOldName(deedNames, into.deeds) && takeLaw(into.fineAt, taken);
                case GROW: return take(GROW) && takeLaw(into.growAt, 0);
                case WARM: return take(WARM) && takeLaw(into.warmAt, 0);
                case VOTE: return take(VOTE) && takeOldName(manNames, into.men) && takeLaw(into.voteAt, taken);
                case COLD: return takeCold();
                case MOULT: return takeMoult();
                default: return fail(SYNTAX);
            }
        }

        private boolean takeMan() {
            if (into.men >= MOST) {
                return fail(ROOM);
            }
            if (!take(MAN) || !takeNewName(manNames, into.men) || !takeInt(0, MOST_FEATHERS)) {
                return false;
            }
            into.feathers[into.men] = taken;
            into.men++;
            return take(';');
        }

        private boolean takeDeed() {
            if (into.deeds >= MOST) {
                return fail(ROOM);
            }
            if (!take(DEED) || !takeNewName(deedNames, into.deeds) || !takeInt(0, MOST_GUILT)) {
                return false;
            }
            into.guilt[into.deeds] = taken;
            into.deeds++;
            return take(';');
        }

        private boolean takeCold() {
            into.colds = 0;
            boolean good = take(COLD);
            for (int i = 0; i <= Program.MOST_COLDS && good && kind == Tape.INT; i++) {
                good = i < Program.MOST_COLDS ? takeInt(0, MOST_COLD) : fail(ROOM);
                if (good) {
                    into.cold[i] = taken;
                    into.colds = i + 1;
                }
            }
            return good && take(';');
        }

        private boolean takeMoult() {
            if (!take(MOULT) || !takeInt(1, MOST_MOULT)) {
                return false;
            }
            into.moult = taken;
            return take(';');
        }

        // ---- laws ----

        /** Takes a law and notes where its steps begin; nowhere if the name ahead of it is that of none. */
        private boolean takeLaw(int[] where, int which) {
            if (which >= 0 && which < where.length) {
                where[which] = into.steps;
            }
            boolean good = take('=');
            for (int ifs = 0; ifs <= MOST_IFS && good && kind == IF; ifs++) {
                if (ifs == MOST_IFS) {
                    return fail(ROOM);
                }
                good = take(IF) && takeSum(0) && take('<') && takeSum(0) && take(THEN);
                int unless = into.emit(Program.UNLESS_LESS, 0);
                good = good && takeSum(0) && take(ELSE);
                into.emit(Program.END, 0);
                into.with[unless] = into.steps;
            }
            good = good && takeSum(0);
            into.emit(Program.END, 0);
            return good && take(';');
        }

        private boolean takeSum(int depth) {
            boolean good = takePart(depth);
            for (int i = 0; i < Tape.MOST_TOKENS && good && (kind == '+' || kind == '-'); i++) {
                int sign = kind;
                good = take(sign) && takePart(depth);
                into.emit(sign, 0);
            }
            return good;
        }

        private boolean takePart(int depth) {
            boolean good = takeUnit(depth);
            for (int i = 0; i < Tape.MOST_TOKENS && good && (kind == '*' || kind == '/'); i++) {
                int sign = kind;
                good = take(sign) && takeUnit(depth);
                into.emit(sign, 0);
            }
            return good;
        }

        private boolean takeUnit(int depth) {
            if (kind == Tape.INT) {
                into.emit(Program.PUSH, (int) tape.values[ahead]);
                return take(Tape.INT);
            }
            if (kind >= HAVE && kind <= RANK) {
                into.emit(Program.GET, kind - HAVE);
                return take(kind);
            }
            if (kind != '(') {
                return fail(SYNTAX);
            }
            if (depth >= MOST_DEPTH) {
                return fail(ROOM);
            }
            return take('(') && takeSum(depth + 1) && take(')');
        }
    }
}
