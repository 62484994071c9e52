/** Promises 16, 17 and 30 to 32, weeks, what is undone and held: a test of its own for each edge that the document names there. */
public final class TimeEdgesTest {
    private static final int NONE = FeatherCourt.NONE;
    private static final String VILLAGE = "man a 60;man b 40;man c 9;deed d 3;deed e 5;fine d=4+times;fine e=week+2;grow=1+times;"
        + "moult 3;cold 1 2;";

    public static void main(String[] args) {
        howManyWeeks();
        noSuchWeeks();
        grows();
        growsUpTo9999();
        growSeesTheWeekThatGoes();
        weeksAtOnce();
        moults();
        moultOfEachWeek();
        moultOf99();
        noMoult();
        nothingToUndo();
        undoesEach();
        undoesTheLast25();
        undoGoesRound();
        undoOfWhatIsLongAgo();
        whatIsNoThingDone();
        undoLeavesTheRest();
        undoAcrossAMoult();
        noSuchSlots();
        nothingIsHeld();
        holdsEach();
        holdIsACopy();
        itStaysThere();
        slotsOfTheirOwn();
        nothingUndoneThen();
        notHeld();
        heldTimes();
        heldEntries();
        holdsAll300();
        counts();
        countsEmpty();
        noSuchCounts();
        calls512();
        Check.close("TimeEdgesTest");
    }

    // ---- weeks ----

    private static void howManyWeeks() {
        FeatherCourt x = Check.court("man a 5;grow=1;");
        Check.edge("16: 0 is no thing done, which week it is");
        Check.due("weeks(0)", x.weeks(0), 0);
        Check.due("undo", x.count(9), 0);
        Check.due("undo", x.undo(), false);
        Check.edge("16: 1 and more: which week it is then");
        Check.due("weeks(1)", x.weeks(1), 1);
        Check.due("weeks(2)", x.weeks(2), 3);
        Check.due("weeks(0)", x.weeks(0), 3);
        Check.due("feathers", x.man(0, 0), 8);
        Check.due("things done", x.count(9), 2);
        Check.edge("16: 100");
        Check.due("weeks(100)", x.weeks(100), 103);
        Check.due("feathers", x.man(0, 0), 108);
        Check.due("week", x.count(2), 103);
        Check.due("one thing done", x.count(9), 3);
    }

    private static void noSuchWeeks() {
        Check.edge("16: NONE, and nothing happens: no such n");
        for (int n : Check.far(-100, -1, 101, 102, 200)) {
            FeatherCourt x = busy();
            Check.refused(x, "weeks(" + n + ")", () -> x.weeks(n), NONE);
        }
    }

    private static void grows() {
        Check.edge("II: on each goose as many grow as GROW tells, led to it; nothing in the CHEST");
        FeatherCourt x = Check.court("man a 5;man b 6;man c 0;deed d 1;fine d=2;grow=10*rank;");
        x.fine(0, 0);
        x.stuff(1, 0, 1);
        x.weeks(1);
        int[][] due = {{3, 1, 0}, {0, 15, 0}, {0, 0, 20}};
        for (int goose = 0; goose < 3; goose++) {
            for (int from = 0; from < 3; from++) {
                Check.due("led(" + goose + ", " + from + ")", x.led(goose, from), due[goose][from]);
            }
        }
        Check.due("CHEST", x.count(3), 2);
    }

    private static void growsUpTo9999() {
        Check.edge("II: no more than up to 9999 FEATHERS");
        FeatherCourt x = Check.court("man a 999;man b 9;man c 8;man d 10;grow=if rank<1 then 0 else 999;");
        x.weeks(9);
        int[] due = {999, 9000, 8999, 9001};
        for (int man = 0; man < 4; man++) {
            Check.due("ahead: man " + man, x.man(man, 0), due[man]);
        }
        x.weeks(1);
        int[] then = {999, 9999, 9998, 9999};
        for (int man = 0; man < 4; man++) {
            Check.due("then: man " + man, x.man(man, 0), then[man]);
        }
        x.stuff(1, 0, 3);
        x.weeks(1);
        Check.due("9996 and 3", x.man(1, 0), 9999);
        Check.due("9998 and 1", x.man(2, 0), 9999);
        Check.due("9999 and none", x.man(3, 0), 9999);
        Check.edge("II: up to 9999 of all that it has, whose ever");
        x.stuff(2, 0, 4000);
        x.stuff(1, 2, 3500);
        x.weeks(1);
        Check.due("c", x.man(2, 0), 9999);
        Check.due("c's own", x.led(2, 2), 9999 - 3500);
        Check.edge("16: weeks at once, up to 9999");
        FeatherCourt y = Check.court("man a 0;grow=have/2+1;");
        y.weeks(100);
        Check.due("a", y.man(0, 0), 9999);
    }

    private static void growSeesTheWeekThatGoes() {
        Check.edge("II: then it is that week: GROW sees the week that goes, its wind, and what is grown by then");
        FeatherCourt x = Check.court("man a 0;grow=if week<1 then 1 else week*100+wind;cold 5 7 9;");
        x.weeks(1);
        Check.due("week 0", x.man(0, 0), 1);
        x.weeks(1);
        Check.due("week 1", x.man(0, 0), 108);
        x.weeks(1);
        Check.due("week 2", x.man(0, 0), 317);
        FeatherCourt y = Check.court("man a 3;grow=have;");
        y.weeks(4);
        Check.due("twice as many each week", y.man(0, 0), 48);
    }

    private static void weeksAtOnce() {
        Check.edge("16: n WEEKS at once are as n WEEKS one by one");
        for (int n : new int[] {2, 3, 4, 7, 20}) {
            FeatherCourt x = busy();
            FeatherCourt y = busy();
            x.weeks(n);
            for (int i = 0; i < n; i++) {
                y.weeks(1);
            }
            Check.due(n + " weeks", Check.village(x), Check.village(y));
        }
    }

    private static int times(FeatherCourt x) {
        return 100 * x.man(0, 2) + x.tariff(0, 0) - 4;
    }

    private static void moults() {
        FeatherCourt x = Check.court(VILLAGE);
        x.fine(0, 0);
        x.fine(0, 0);
        x.fine(0, 1);
        Check.edge("II: times are 0 again if the week that comes is a whole number of MOULTS");
        x.weeks(1);
        Check.due("week 1", times(x), 302);
        x.weeks(1);
        Check.due("week 2", times(x), 302);
        int have = x.man(0, 0);
        x.weeks(1);
        Check.due("week 3", times(x), 0);
        Check.edge("II: what grows ahead of a MOULT grows by the times of then");
        Check.due("grown", x.man(0, 0), have + 4);
        Check.edge("II: how often he was fined since the last MOULT");
        x.fine(0, 0);
        Check.due("in the week of the MOULT", times(x), 101);
        x.weeks(2);
        x.fine(0, 0);
        Check.due("week 5", times(x), 202);
        x.weeks(1);
        Check.due("week 6", times(x), 0);
        Check.edge("II: an amnesty of times alone: ENTRIES stay, and can be APPEALED");
        Check.due("entries", x.count(5), 5);
        Check.due("appeal", x.appeal(0), 2);
        Check.edge("II: times are 0 again, a MOULT within many weeks");
        FeatherCourt y = Check.court(VILLAGE);
        y.weeks(1);
        y.fine(0, 0);
        y.weeks(4);
        Check.due("week 5", times(y), 0);
        y.fine(0, 0);
        y.weeks(0);
        Check.due("week 5", times(y), 101);
        y.weeks(100);
        Check.due("week 105", times(y), 0);
    }

    private static void moultOfEachWeek() {
        Check.edge("I: MOULT each week");
        FeatherCourt x = Check.court("man a 50;deed d 1;fine d=4+times;moult 1;");
        for (int i = 0; i < 3; i++) {
            x.fine(0, 0);
            Check.due("fined", times(x), 101);
            x.weeks(1);
            Check.due("week", times(x), 0);
        }
    }

    private static void moultOf99() {
        Check.edge("I: MOULT each 99 weeks");
        FeatherCourt x = Check.court("man a 50;deed d 1;fine d=4+times;moult 99;");
        x.fine(0, 0);
        x.weeks(98);
        Check.due("week 98", times(x), 101);
        x.weeks(1);
        Check.due("week 99", times(x), 0);
        x.fine(0, 0);
        x.weeks(98);
        Check.due("week 197", times(x), 101);
        x.weeks(1);
        Check.due("week 198", times(x), 0);
    }

    private static void noMoult() {
        Check.edge("I: MOULT never, if not told");
        FeatherCourt x = Check.court("man a 50;deed d 1;fine d=4+times;");
        x.fine(0, 0);
        for (int i = 0; i < 5; i++) {
            x.weeks(100);
            Check.due("times", times(x), 101);
        }
    }

    // ---- undo ----

    private static void nothingToUndo() {
        Check.edge("17: false: there is none");
        Check.due("undo", new FeatherCourt().undo(), false);
        FeatherCourt x = Check.court(VILLAGE);
        Check.refused(x, "undo", () -> x.undo() ? 1 : 0, 0);
        x.fine(0, 0);
        Check.due("undo", x.undo(), true);
        Check.refused(x, "undo", () -> x.undo() ? 1 : 0, 0);
    }

    private static final String[] DONE = {"fine", "appeal", "stuff", "lend", "repay", "weeks"};

    private static void act(FeatherCourt x, int what) {
        switch (what) {
            case 0: Check.due("fine", x.fine(0, 0) >= 0, true); break;
            case 1: Check.due("appeal", x.appeal(1) >= 0, true); break;
            case 2: Check.due("stuff", x.stuff(0, 2, 3), true); break;
            case 3: Check.due("lend", x.lend(1, 0, 2), true); break;
            case 4: Check.due("repay", x.repay(1, 0, 2), 2); break;
            default: Check.due("weeks", x.weeks(4) > 0, true);
        }
    }

    private static FeatherCourt busy() {
        FeatherCourt x = Check.court(VILLAGE);
        x.fine(0, 0);
        x.fine(1, 1);
        x.lend(0, 1, 5);
        x.stuff(1, 2, 3);
        x.weeks(1);
        x.tell(3, 1);
        return x;
    }

    private static void undoesEach() {
        for (int what = 0; what < DONE.length; what++) {
            Check.edge("17: the last thing done is undone: " + DONE[what]);
            FeatherCourt x = busy();
            String before = Check.all(x);
            act(x, what);
            Check.due("one more can be", x.count(9), 6);
            Check.due("it changed something", Check.village(x).equals(Check.village(busy())), false);
            Check.due("undo", x.undo(), true);
            Check.due("all", Check.all(x), before);
        }
        Check.edge("17: all that was done is undone, the last one first");
        FeatherCourt x = busy();
        for (int what = 0; what < DONE.length; what++) {
            act(x, what);
        }
        for (int what = 0; what < DONE.length; what++) {
            Check.due("undo", x.undo(), true);
        }
        Check.due("all", Check.all(x), Check.all(busy()));
    }

    private static void undoesTheLast25() {
        Check.edge("17: the last 25 can be");
        FeatherCourt x = Check.court(VILLAGE);
        String[] ahead = new String[26];
        for (int i = 0; i < 26; i++) {
            Check.due("can be undone", x.count(9), Math.min(25, i));
            x.weeks(1);
        }
        Check.due("no more than 25", x.count(9), 25);
        for (int i = 0; i < 25; i++) {
            Check.due("undo", x.undo(), true);
            Check.due("week", x.count(2), 25 - i);
            Check.due("can be undone", x.count(9), 24 - i);
        }
        Check.edge("17: false: a 26th");
        Check.due("undo", x.undo(), false);
        Check.due("week", x.count(2), 1);
        Check.edge("17: 25 done, 25 undone");
        FeatherCourt y = Check.court(VILLAGE);
        for (int i = 0; i < 25; i++) {
            y.stuff(0, 1, 1);
        }
        for (int i = 0; i < 25; i++) {
            Check.due("undo", y.undo(), true);
        }
        Check.due("undo", y.undo(), false);
        Check.due("all are there", y.man(0, 0), 60);
    }

    private static void undoGoesRound() {
        Check.edge("17: done and undone, round and round");
        FeatherCourt x = Check.court("man a 999;man b 0;");
        int done = 0;
        for (int round = 0; round < 4; round++) {
            for (int i = 0; i < 20; i++) {
                x.stuff(0, 1, 1);
                done++;
            }
            for (int i = 0; i < 9; i++) {
                Check.due("undo", x.undo(), true);
                done--;
            }
            Check.due("feathers", x.man(1, 0), done);
        }
        int can = x.count(9);
        Check.due("can be undone", can, 16);
        for (int i = 0; i < can; i++) {
            Check.due("undo", x.undo(), true);
        }
        Check.due("undo", x.undo(), false);
        Check.due("feathers", x.man(1, 0), done - can);
        Check.edge("17: what is undone is not done again");
        x.lend(0, 1, 7);
        Check.due("undo", x.undo(), true);
        Check.due("undo", x.undo(), false);
        Check.due("feathers", x.man(1, 0), done - can);
        Check.due("debt", x.debt(1, 0), 0);
    }

    private static void undoOfWhatIsLongAgo() {
        FeatherCourt x = Check.court(VILLAGE);
        x.lend(0, 1, 5);
        x.fine(0, 0);
        x.appeal(0);
        for (int i = 0; i < 22; i++) {
            x.weeks(1);
        }
        Check.edge("17: the last thing done alone is undone, not the loan 25 things ahead");
        x.stuff(0, 1, 1);
        Check.due("undo", x.undo(), true);
        Check.due("debt", x.debt(1, 0), 5);
        Check.edge("17: the last thing done alone is undone, not the appeal 25 things ahead");
        x.stuff(0, 1, 1);
        x.stuff(0, 1, 1);
        x.weeks(1);
        Check.due("undo", x.undo(), true);
        Check.due("appealed", x.entry(0, 4), 1);
        Check.due("entries", x.count(5), 1);
    }

    private static void whatIsNoThingDone() {
        FeatherCourt x = busy();
        Check.edge("17: what is refused is no thing done");
        x.fine(0, 2);
        x.appeal(7);
        x.stuff(0, 0, 1);
        x.lend(0, 1, 0);
        x.repay(0, 1, 1);
        x.weeks(101);
        x.restore(2);
        x.hold(3);
        Check.due("can be undone", x.count(9), 5);
        Check.edge("17: fed, told, forgotten, held, asked are no things done");
        x.feed(0, 0, 0, 0, 0);
        x.back(20);
        Check.fault(x, "?", 1, 0);
        x.tell(1, 1);
        x.forget();
        x.tell(2, 2);
        x.hold(0);
        x.warm(9);
        x.warmBy(0);
        x.payments();
        x.quilt(5, 0);
        x.bald(1);
        x.elected(0);
        x.did(0, 5);
        x.stuffer(5, 0, NONE);
        Check.due("can be undone", x.count(9), 5);
        Check.due("undo", x.undo(), true);
        Check.due("the weeks are undone", x.count(2), 0);
    }

    private static void undoLeavesTheRest() {
        Check.edge("17: undo leaves what is TOLD, SLOTS and the tape as they are");
        FeatherCourt x = Check.court(VILLAGE);
        x.fine(0, 0);
        x.tell(1, 1);
        x.hold(1);
        x.feed(0, 0, 0, 0, 0);
        Check.due("undo", x.undo(), true);
        Check.due("TOLD", x.count(10), 1);
        Check.due("SLOTS", x.count(11), 1);
        Check.due("tape", x.count(8), 20);
        Check.due("restore", x.restore(1), true);
        Check.due("entries", x.count(5), 1);
    }

    private static void undoAcrossAMoult() {
        Check.edge("17: times are as they were ahead of a MOULT");
        FeatherCourt x = Check.court(VILLAGE);
        x.fine(0, 0);
        x.fine(0, 1);
        x.weeks(7);
        Check.due("week 7", times(x), 0);
        x.fine(0, 0);
        Check.due("fined", times(x), 101);
        x.weeks(2);
        Check.due("week 9", times(x), 0);
        x.undo();
        Check.due("undone to week 7", times(x), 101);
        x.undo();
        Check.due("undone, not fined", times(x), 0);
        x.undo();
        Check.due("undone to week 0", times(x), 201);
        x.undo();
        Check.due("undone, fined once", times(x), 101);
    }

    // ---- slots ----

    private static void noSuchSlots() {
        FeatherCourt x = busy();
        x.hold(0);
        x.hold(1);
        x.hold(2);
        Check.edge("30: false: no such SLOT");
        for (int slot : Check.far(-2, -1, 3, 4)) {
            Check.due("hold(" + slot + ")", x.hold(slot), false);
        }
        Check.edge("31: false, and nothing happens: no such SLOT");
        for (int slot : Check.far(-2, -1, 3, 4)) {
            Check.due("restore(" + slot + ")", x.restore(slot), false);
        }
        Check.due("can be undone", x.count(9), 5);
        Check.due("SLOTS", x.count(11), 3);
    }

    private static void nothingIsHeld() {
        Check.edge("31: false, and nothing happens: nothing is held");
        FeatherCourt x = busy();
        x.hold(1);
        x.fine(0, 0);
        Check.refused(x, "restore(0)", () -> x.restore(0) ? 1 : 0, 0);
        FeatherCourt y = busy();
        y.hold(1);
        Check.refused(y, "restore(2)", () -> y.restore(2) ? 1 : 0, 0);
        Check.edge("32: SLOTS that hold something, 0 to 3");
        Check.due("two", count11(y, 2), 2);
        Check.due("again", count11(y, 2), 2);
        Check.due("three", count11(y, 0), 3);
    }

    private static int count11(FeatherCourt x, int slot) {
        Check.due("hold(" + slot + ")", x.hold(slot), true);
        return x.count(11);
    }

    private static void holdsEach() {
        for (int what = 0; what < DONE.length; what++) {
            Check.edge("31: they go on from what is held, as ahead of " + DONE[what]);
            FeatherCourt x = busy();
            String before = Check.village(x);
            Check.due("hold", x.hold(what % 3), true);
            act(x, what);
            Check.due("restore", x.restore(what % 3), true);
            Check.due("all", Check.village(x), before);
            Check.edge("31: they go on from what is held, as behind " + DONE[what]);
            act(x, what);
            String behind = Check.village(x);
            x.hold(what % 3);
            x.weeks(5);
            x.fine(2, 0);
            x.restore(what % 3);
            Check.due("all", Check.village(x), behind);
        }
    }

    private static void holdIsACopy() {
        Check.edge("30: what is done then leaves the SLOT as it is");
        FeatherCourt x = busy();
        String before = Check.village(x);
        x.hold(0);
        for (int what = 0; what < DONE.length; what++) {
            act(x, what);
        }
        x.appeal(0);
        x.restore(0);
        Check.due("all", Check.village(x), before);
        Check.due("not appealed", x.entry(1, 4), 0);
        Check.edge("30: what is undone then leaves the SLOT as it is");
        FeatherCourt y = busy();
        y.appeal(1);
        before = Check.village(y);
        y.hold(2);
        for (int i = 0; i < 6; i++) {
            Check.due("undo", y.undo(), true);
        }
        y.restore(2);
        Check.due("all", Check.village(y), before);
        Check.due("appealed", y.entry(1, 4), 1);
    }

    private static void itStaysThere() {
        Check.edge("31: it stays there");
        FeatherCourt x = busy();
        String before = Check.village(x);
        x.hold(1);
        for (int round = 0; round < 2; round++) {
            act(x, round);
            act(x, 3);
            act(x, 5);
            Check.due("restore", x.restore(1), true);
        }
        Check.due("all", Check.village(x), before);
        Check.due("SLOTS", x.count(11), 1);
        Check.edge("30: held again in the same SLOT");
        x.weeks(9);
        Check.due("hold", x.hold(1), true);
        x.weeks(9);
        Check.due("restore", x.restore(1), true);
        Check.due("week", x.count(2), 10);
        Check.due("SLOTS", x.count(11), 1);
    }

    private static void slotsOfTheirOwn() {
        Check.edge("30: SLOTS 0 .. 2, each of its own");
        FeatherCourt x = Check.court(VILLAGE);
        for (int slot = 2; slot >= 0; slot--) {
            x.weeks(1);
            x.fine(0, 0);
            x.lend(0, 1, 1);
            Check.due("hold", x.hold(slot), true);
        }
        for (int slot : new int[] {1, 0, 2, 0, 1}) {
            Check.due("restore", x.restore(slot), true);
            Check.due("week of slot " + slot, x.count(2), 3 - slot);
            Check.due("entries of slot " + slot, x.count(5), 3 - slot);
            Check.due("debt of slot " + slot, x.debt(1, 0), 3 - slot);
        }
    }

    private static void nothingUndoneThen() {
        Check.edge("30: what is done can be undone when it is held");
        FeatherCourt x = busy();
        x.hold(0);
        Check.due("can be undone", x.count(9), 5);
        x.weeks(1);
        Check.due("undo", x.undo(), true);
        Check.due("undo", x.undo(), true);
        Check.due("week", x.count(2), 0);
        Check.edge("31: nothing can be undone then");
        Check.due("restore", x.restore(0), true);
        Check.due("can be undone", x.count(9), 0);
        Check.due("undo", x.undo(), false);
        Check.due("week", x.count(2), 1);
        Check.edge("31: but what is done from then on");
        x.weeks(4);
        Check.due("undo", x.undo(), true);
        Check.due("week", x.count(2), 1);
        Check.due("undo", x.undo(), false);
    }

    private static void notHeld() {
        Check.edge("30: what is TOLD, and the tape, are not held");
        FeatherCourt x = busy();
        x.hold(0);
        x.tell(1, 7);
        x.feed(0, 0, 0, 0, 0);
        Check.due("restore", x.restore(0), true);
        Check.due("TOLD", x.count(10), 2);
        Check.due("tape", x.count(8), 20);
        x.forget();
        Check.due("restore", x.restore(0), true);
        Check.due("TOLD", x.count(10), 0);
        Check.edge("30: SLOTS outlast a text with a FAULT");
        Check.feed(x, "?");
        x.read();
        Check.due("restore", x.restore(0), true);
    }

    private static void heldTimes() {
        Check.edge("30: times are held");
        FeatherCourt x = Check.court(VILLAGE);
        x.weeks(2);
        x.fine(0, 0);
        x.fine(0, 0);
        x.hold(0);
        x.weeks(1);
        x.fine(0, 0);
        x.hold(1);
        Check.due("one since the MOULT", times(x), 101);
        x.restore(0);
        Check.due("two ahead of it", times(x), 202);
        x.weeks(4);
        x.restore(1);
        Check.due("one since the MOULT", times(x), 101);
        x.weeks(2);
        Check.due("week 5", times(x), 101);
        x.weeks(1);
        Check.due("week 6", times(x), 0);
    }

    private static void heldEntries() {
        Check.edge("30: ENTRIES are held, each as it is: its MAN, DEED, week, FEATHERS, APPEAL");
        FeatherCourt x = Check.court(VILLAGE);
        x.weeks(2);
        x.fine(0, 0);
        x.fine(1, 1);
        x.appeal(1);
        String before = Check.village(x);
        x.hold(0);
        for (int i = 0; i < 3; i++) {
            x.undo();
        }
        x.weeks(5);
        x.fine(2, 1);
        x.fine(2, 0);
        x.appeal(0);
        x.restore(0);
        Check.due("all", Check.village(x), before);
        Check.due("the week of the first one", x.entry(0, 2), 2);
        Check.due("times", times(x), 101);
    }

    private static void holdsAll300() {
        Check.edge("30: 300 ENTRIES are held");
        FeatherCourt x = Check.court("man a 999;man b 5;deed d 1;deed e 1;fine d=3;fine e=1;");
        x.hold(1);
        for (int i = 0; i < 299; i++) {
            x.fine(0, 0);
        }
        x.fine(1, 1);
        x.hold(2);
        Check.due("restore(1)", x.restore(1), true);
        Check.due("entries", x.count(5), 0);
        Check.due("fine", x.fine(1, 0), 3);
        Check.due("restore(2)", x.restore(2), true);
        Check.due("entries", x.count(5), 300);
        Check.due("fine", x.fine(0, 0), -2);
        Check.due("the first one", x.entry(0, 3), 3);
        Check.due("the last one", x.entry(299, 1), 1);
        Check.due("the last but one", x.entry(298, 1), 0);
        Check.due("times", x.man(0, 2), 299);
        Check.edge("30: the last of 300 ENTRIES is held as it is");
        FeatherCourt y = Check.court("man a 999;man b 5;deed d 1;deed e 1;fine d=3;fine e=1;");
        for (int i = 0; i < 300; i++) {
            y.fine(0, 0);
        }
        y.appeal(299);
        y.hold(0);
        y.undo();
        y.undo();
        y.weeks(4);
        y.fine(1, 1);
        Check.due("restore(0)", y.restore(0), true);
        int[] due = {0, 0, 0, 3, 1};
        for (int what = 0; what < due.length; what++) {
            Check.due("entry(299, " + what + ")", y.entry(299, what), due[what]);
        }
    }

    // ---- count ----

    private static void counts() {
        FeatherCourt x = Check.court("man a 30;man b 20;man c 1;deed d 1;deed e 2;cold 1 2 3 4;moult 9;");
        x.fine(0, 0);
        x.fine(1, 0);
        x.stuff(0, 1, 3);
        x.weeks(5);
        x.tell(1, 1);
        x.hold(1);
        x.hold(2);
        Check.feed(x, "man a");
        String[] says = {"MEN", "DEEDS", "the week", "FEATHERS in the CHEST", "on all geese", "ENTRIES", "numbers of COLD", "MOULT",
            "bytes on the tape", "things that can be undone", "TOLD ones", "SLOTS that hold something"};
        int[] due = {3, 2, 5, 20, 31, 2, 4, 9, 5, 4, 1, 2};
        for (int what = 0; what < due.length; what++) {
            Check.edge("32: what " + what + " " + says[what]);
            Check.due("count(" + what + ")", x.count(what), due[what]);
        }
    }

    private static void countsEmpty() {
        FeatherCourt x = Check.court("man a 0;");
        int[] due = {1, 0, 0, 0, 0, 0, 0, 0, 0, 0, 0, 0};
        for (int what = 0; what < due.length; what++) {
            Check.edge("32: of none: what " + what);
            Check.due("count(" + what + ")", x.count(what), due[what]);
        }
    }

    private static void noSuchCounts() {
        Check.edge("32: NONE for others");
        FeatherCourt x = busy();
        for (int what : Check.far(-2, -1, 12, 13, 100)) {
            Check.due("count(" + what + ")", x.count(what), NONE);
        }
    }

    private static void calls512() {
        Check.edge("an object is used for 512 calls");
        FeatherCourt x = new FeatherCourt();
        x.feed(0x6d616e20, 0x6120353b, 0x67726f77, 0x3d313b20, 0x20202020);
        Check.due("read", x.read(), 0);
        for (int i = 1; i <= 509; i++) {
            Check.due("weeks", x.weeks(100), 100 * i);
        }
        Check.due("the 512th", x.man(0, 0), 9999);
    }
}
