/** Promises 6 to 15, what is and what is done to geese: a test of its own for each edge that the document names there. */
public final class DeedEdgesTest {
    private static final int NONE = FeatherCourt.NONE;
    private static final int MAX = Integer.MAX_VALUE;
    private static final int MIN = Integer.MIN_VALUE;

    public static void main(String[] args) {
        noSuchMen();
        noSuchPairs();
        noSuchWhats();
        lastOfEight();
        whatAManIs();
        netOfOneBelow0();
        netOfMany();
        ledEmptyAndFull();
        debtsBothWays();
        tariffIsNotWhatThereIs();
        fineOfMoreThanThereIs();
        pluckedInOrder();
        fineOfNothing();
        mostEntries();
        entriesOfEach();
        appealOnce();
        appealWithoutAFeather();
        halfRoundedDown();
        quillGoesFirst();
        comesBackInOrder();
        comesBackHoweverManyItHas();
        stuffs();
        stuffIsRefused();
        lends();
        upTo9999();
        wrapsOfHowMany();
        repays();
        repayIsRefused();
        repayUpTo9999();
        Check.close("DeedEdgesTest");
    }

    // ---- what is ----

    private static FeatherCourt three() {
        FeatherCourt x = Check.court("man a 30;man b 20;man c 0;deed d 3;deed e 5;fine d=4;fine e=times;");
        x.fine(0, 0);
        x.lend(0, 1, 6);
        return x;
    }

    private static final int[] NO_MEN = Check.far(-2, -1, 3, 4, 8, 9);

    private static void noSuchMen() {
        FeatherCourt x = three();
        Check.edge("6: NONE for no such MAN");
        for (int man : NO_MEN) {
            for (int what = 0; what <= 6; what++) {
                Check.due("man(" + man + ", " + what + ")", x.man(man, what), NONE);
            }
        }
        Check.edge("9: NONE: no such MAN");
        for (int man : NO_MEN) {
            Check.due("tariff(" + man + ", 0)", x.tariff(man, 0), NONE);
        }
        Check.edge("9: NONE: no such DEED");
        for (int deed : Check.far(-2, -1, 2, 3, 8)) {
            Check.due("tariff(0, " + deed + ")", x.tariff(0, deed), NONE);
        }
        Check.edge("10: NONE: no such MAN");
        for (int man : NO_MEN) {
            Check.due("fine(" + man + ", 0)", x.fine(man, 0), NONE);
        }
        Check.edge("10: NONE: no such DEED");
        for (int deed : Check.far(-2, -1, 2, 3, 8)) {
            Check.due("fine(0, " + deed + ")", x.fine(0, deed), NONE);
        }
        Check.edge("10: NONE: no such ones, and nothing happens");
        for (int[] one : new int[][] {{-1, 0}, {3, 0}, {0, -1}, {0, 2}, {2, 3}, {MIN, MAX}}) {
            FeatherCourt y = three();
            Check.refused(y, "fine(" + one[0] + ", " + one[1] + ")", () -> y.fine(one[0], one[1]), NONE);
        }
    }

    private static void noSuchPairs() {
        FeatherCourt x = three();
        Check.edge("7: NONE: no such goose");
        for (int goose : Check.far(-3, -2, 3, 4, 8, 9)) {
            for (int from = -1; from <= 2; from++) {
                Check.due("led(" + goose + ", " + from + ")", x.led(goose, from), NONE);
            }
        }
        Check.edge("7: NONE: no such goose on which it grew, CHEST or not");
        for (int from : NO_MEN) {
            for (int goose = -1; goose <= 2; goose++) {
                Check.due("led(" + goose + ", " + from + ")", x.led(goose, from), NONE);
            }
        }
        Check.edge("8: NONE: no such ones");
        for (int man : NO_MEN) {
            for (int other = -1; other <= 2; other++) {
                Check.due("debt(" + man + ", " + other + ")", x.debt(man, other), NONE);
                Check.due("debt(" + other + ", " + man + ")", x.debt(other, man), NONE);
            }
        }
        Check.edge("8: NONE: one and the same");
        for (int man = -1; man <= 3; man++) {
            Check.due("debt(" + man + ", " + man + ")", x.debt(man, man), NONE);
        }
    }

    private static void noSuchWhats() {
        FeatherCourt x = three();
        Check.edge("6: NONE for other whats");
        for (int what : Check.far(-2, -1, 7, 8)) {
            Check.due("man(0, " + what + ")", x.man(0, what), NONE);
        }
        Check.edge("11: NONE for other whats");
        for (int what : Check.far(-2, -1, 5, 6)) {
            Check.due("entry(0, " + what + ")", x.entry(0, what), NONE);
        }
        Check.edge("11: NONE for other ENTRIES");
        for (int i : Check.far(-2, -1, 1, 2, 299, 300, 301)) {
            for (int what = 0; what <= 4; what++) {
                Check.due("entry(" + i + ", " + what + ")", x.entry(i, what), NONE);
            }
        }
        Check.edge("12: NONE: no such ENTRY, and nothing happens");
        for (int i : Check.far(-1, 1)) {
            FeatherCourt y = three();
            Check.refused(y, "appeal(" + i + ")", () -> y.appeal(i), NONE);
        }
    }

    private static void lastOfEight() {
        FeatherCourt x = Check.court(Check.men(9, 9, 9, 9, 9, 9, 9, 9) + Check.deeds(1, 2, 3, 4, 5, 6, 7, 8));
        Check.edge("I: MAN 7 and DEED 7 are the last of eight");
        Check.due("tariff", x.tariff(7, 7), 8);
        Check.due("fine", x.fine(7, 7), 8);
        Check.due("man", x.entry(0, 0), 7);
        Check.due("deed", x.entry(0, 1), 7);
        Check.due("led", x.led(NONE, 7), 8);
        Check.due("led", x.led(7, 7), 1);
        Check.due("times", x.man(7, 2), 1);
        Check.due("lend", x.lend(7, 6, 1), true);
        Check.due("led", x.led(6, 7), 1);
        Check.due("debt", x.debt(6, 7), 1);
        Check.due("net", x.man(7, 3), 1);
        Check.due("appeal, the goose is bare", x.appeal(0), -2);
        Check.due("repay", x.repay(6, 7, 1), 1);
        Check.due("appeal", x.appeal(0), 4);
        Check.edge("I: no MAN 8, no DEED 8");
        Check.due("man", x.man(8, 0), NONE);
        Check.due("tariff", x.tariff(8, 7), NONE);
        Check.due("tariff", x.tariff(7, 8), NONE);
        Check.due("fine", x.fine(8, 0), NONE);
        Check.due("fine", x.fine(0, 8), NONE);
        Check.due("led", x.led(8, 7), NONE);
        Check.due("led", x.led(7, 8), NONE);
        Check.due("debt", x.debt(8, 7), NONE);
        Check.due("debt", x.debt(7, 8), NONE);
        Check.due("stuff", x.stuff(8, 7, 1), false);
        Check.due("stuff", x.stuff(7, 8, 1), false);
        Check.due("warmBy", x.warmBy(8), NONE);
        Check.due("bald", x.bald(8), NONE);
    }

    private static void whatAManIs() {
        FeatherCourt x = Check.court("man a 10;man b 20;man c 5;deed d 1;fine d=6;cold 14;");
        x.stuff(1, 0, 7);
        x.stuff(0, 2, 2);
        x.fine(1, 0);
        x.fine(1, 0);
        // a: 8 of his own, 7 of b; b: 1 of his own; c: 5 of his own, 2 of a; the chest: 12 of b
        int[][] due = {{15, 8, 0, 0, 1, 0, 2}, {1, 1, 2, 0, 0, 0, 19}, {7, 5, 0, 0, 0, 0, 0}};
        String[] says = {"FEATHERS of his goose", "those of them that grew on it", "times", "NET", "WARM", "whom he votes for",
            "how many of his goose's own are elsewhere, CHEST too"};
        for (int what = 0; what < says.length; what++) {
            Check.edge("6: what " + what + " " + says[what]);
            for (int man = 0; man < 3; man++) {
                Check.due("man(" + man + ", " + what + ")", x.man(man, what), due[man][what]);
            }
        }
        Check.edge("6: of a goose that has none");
        x = Check.court("man a 0;");
        for (int what = 0; what <= 6; what++) {
            Check.due("man(0, " + what + ")", x.man(0, what), 0);
        }
    }

    private static void netOfOneBelow0() {
        Check.edge("6: NET may be -1, too");
        FeatherCourt x = Check.court(Check.men(9, 9));
        x.lend(0, 1, 1);
        Check.due("b", x.man(1, 3), -1);
        Check.due("a", x.man(0, 3), 1);
        x.lend(1, 0, 1);
        Check.due("b, when a owes him one", x.man(1, 3), 0);
        x.lend(1, 0, 1);
        Check.due("a", x.man(0, 3), -1);
    }

    private static void netOfMany() {
        Check.edge("II: NET: what all owe him less what he owes");
        FeatherCourt x = Check.court(Check.men(900, 900, 900, 900, 900, 900, 900, 900));
        for (int man = 0; man < 8; man++) {
            x.lend(3, man, 1 + man);
            x.lend(man, 5, 100);
        }
        // 3 lent 1 + 2 + 3 + 5 + 6 + 7 + 8 and 100; 5 owes 7 times 100 and 6
        int[] due = {99, 98, 97, 132, 95, -706, 93, 92};
        for (int man = 0; man < 8; man++) {
            Check.due("net of " + man, x.man(man, 3), due[man]);
        }
    }

    private static void ledEmptyAndFull() {
        FeatherCourt x = Check.court("man a 10;man b 20;deed d 1;fine d=10;");
        Check.edge("7: goose NONE: in the CHEST, which is empty");
        Check.due("led(-1, 0)", x.led(NONE, 0), 0);
        Check.due("led(-1, 1)", x.led(NONE, 1), 0);
        Check.edge("7: on the same goose");
        Check.due("led(0, 0)", x.led(0, 0), 10);
        Check.edge("7: on another one: none");
        Check.due("led(0, 1)", x.led(0, 1), 0);
        Check.edge("7: all in the CHEST");
        x.fine(0, 0);
        Check.due("led(-1, 0)", x.led(NONE, 0), 10);
        Check.due("led(0, 0)", x.led(0, 0), 0);
        Check.due("led(-1, 1)", x.led(NONE, 1), 0);
        Check.edge("7: on another one: all");
        x.stuff(1, 0, 20);
        Check.due("led(0, 1)", x.led(0, 1), 20);
        Check.due("led(1, 1)", x.led(1, 1), 0);
        Check.due("led(1, 0)", x.led(1, 0), 0);
    }

    private static void debtsBothWays() {
        Check.edge("8: DEBT of one to another one is not that of the other one to him");
        FeatherCourt x = Check.court(Check.men(9, 9, 9));
        Check.due("debt(0, 1)", x.debt(0, 1), 0);
        x.lend(0, 1, 5);
        x.lend(1, 0, 3);
        x.lend(2, 0, 1);
        int[][] due = {{NONE, 3, 1}, {5, NONE, 0}, {0, 0, NONE}};
        for (int man = 0; man < 3; man++) {
            for (int to = 0; to < 3; to++) {
                Check.due("debt(" + man + ", " + to + ")", x.debt(man, to), due[man][to]);
            }
        }
    }

    // ---- fines and appeals ----

    private static void tariffIsNotWhatThereIs() {
        Check.edge("9: what it tells now, not how many there are");
        FeatherCourt x = Check.court("man a 3;man b 0;deed d 1;deed e 1;fine e=999-chest;");
        Check.due("a", x.tariff(0, 0), 10);
        Check.due("b", x.tariff(1, 0), 10);
        Check.due("b", x.tariff(1, 1), 999);
        x.fine(0, 0);
        Check.due("now", x.tariff(1, 1), 996);
        Check.due("a, bare", x.tariff(0, 0), 10);
    }

    private static void fineOfMoreThanThereIs() {
        Check.edge("10: as many as FINE tells, or all there are");
        int[][] due = {{11, 10, 1}, {10, 10, 0}, {9, 9, 0}, {1, 1, 0}, {0, 0, 0}};
        for (int[] one : due) {
            FeatherCourt x = Check.court(Check.men(one[0]) + Check.deeds(10));
            Check.due("fine", x.fine(0, 0), one[1]);
            Check.due("left", x.man(0, 0), one[2]);
            Check.due("CHEST", x.count(3), one[1]);
            Check.due("entry", x.entry(0, 3), one[1]);
        }
    }

    private static void pluckedInOrder() {
        Check.edge("II: PLUCKED, its own first, then those of the others by numbers");
        int[][] due = {{0, 0, 3, 0}, {1, 0, 3, 0}, {2, 0, 3, 0}, {2, 2, 3, 0}, {2, 2, 3, 4}};
        int[] fines = {3, 1, 1, 2, 99};
        for (int i = 0; i < fines.length; i++) {
            FeatherCourt x = Check.court(Check.men(5, 5, 3, 5) + Check.deeds(fines));
            x.stuff(3, 2, 4);
            x.stuff(0, 2, 2);
            x.stuff(1, 2, 2);
            for (int k = 0; k <= i; k++) {
                x.fine(2, k);
            }
            for (int from = 0; from < 4; from++) {
                Check.due("CHEST of " + from + " behind fine " + i, x.led(NONE, from), due[i][from]);
            }
        }
    }

    private static void fineOfNothing() {
        Check.edge("10: a FINE of 0 FEATHERS is written down, counts among times and is a thing done");
        FeatherCourt x = Check.court("man a 5;man b 0;deed d 1;deed e 1;fine d=0;");
        Check.due("fine", x.fine(0, 0), 0);
        Check.due("fine", x.fine(1, 1), 0);
        Check.due("entries", x.count(5), 2);
        Check.due("plucked", x.entry(1, 3), 0);
        Check.due("times", x.man(0, 2), 1);
        Check.due("times", x.man(1, 2), 1);
        Check.due("undo", x.count(9), 2);
        Check.due("feathers", x.man(0, 0), 5);
    }

    private static void mostEntries() {
        FeatherCourt x = Check.court("man a 999;man b 999;deed d 1;deed e 2;fine d=2;fine e=3;");
        Check.edge("10: 300 ENTRIES");
        for (int i = 0; i < 298; i++) {
            Check.due("fine " + i, x.fine(0, 0), 2);
        }
        x.weeks(3);
        Check.due("fine 298", x.fine(1, 1), 3);
        Check.due("fine 299", x.fine(1, 0), 2);
        Check.due("entries", x.count(5), 300);
        Check.due("the last one's man", x.entry(299, 0), 1);
        Check.due("the last one's deed", x.entry(299, 1), 0);
        Check.due("the last one's week", x.entry(299, 2), 3);
        Check.due("the first one's week", x.entry(0, 2), 0);
        Check.due("no 301st", x.entry(300, 0), NONE);
        Check.edge("10: -2, and nothing happens: 300 ENTRIES are there");
        for (int i = 0; i < 3; i++) {
            Check.due("fine", x.fine(i % 2, i / 2), -2);
            Check.due("entries", x.count(5), 300);
            Check.due("CHEST", x.count(3), 298 * 2 + 5);
            Check.due("feathers", x.man(1, 0), 994);
            Check.due("times", x.man(0, 2), 298);
            Check.due("undo", x.count(9), 25);
        }
        Check.edge("10: 299 ENTRIES, when one is undone");
        Check.due("undo", x.undo(), true);
        Check.due("fine", x.fine(0, 1), 3);
        Check.due("entry", x.entry(299, 1), 1);
        Check.due("fine", x.fine(0, 1), -2);
        Check.edge("12: APPEAL of the last ENTRY of 300");
        Check.due("appeal", x.appeal(299), 1);
        Check.due("entry", x.entry(299, 4), 1);
        Check.due("appeal", x.appeal(300), NONE);
        Check.due("entries", x.count(5), 300);
    }

    private static void entriesOfEach() {
        FeatherCourt x = Check.court("man a 20;man b 5;deed d 1;deed e 1;fine d=4;fine e=9;");
        x.fine(0, 0);
        x.weeks(7);
        x.fine(1, 1);
        x.fine(0, 1);
        x.appeal(2);
        int[][] due = {{0, 0, 0, 4, 0}, {1, 1, 7, 5, 0}, {0, 1, 7, 9, 1}};
        String[] says = {"the MAN", "the DEED", "the week", "FEATHERS plucked", "1 if it was APPEALED, else 0"};
        for (int what = 0; what < says.length; what++) {
            Check.edge("11: what " + what + " " + says[what]);
            for (int i = 0; i < 3; i++) {
                Check.due("entry(" + i + ", " + what + ")", x.entry(i, what), due[i][what]);
            }
        }
    }

    private static void appealOnce() {
        FeatherCourt x = Check.court("man a 90;deed d 1;fine d=9;");
        x.fine(0, 0);
        x.fine(0, 0);
        x.appeal(1);
        Check.edge("12: -2, and nothing happens: it was already");
        Check.refused(x, "appeal(1)", () -> x.appeal(1), -2);
        Check.edge("12: once, each ENTRY");
        Check.due("appeal(0)", x.appeal(0), 4);
        Check.due("appeal(0)", x.appeal(0), -2);
        Check.due("appeal(1)", x.appeal(1), -2);
        Check.edge("12: again when it is undone");
        x.undo();
        Check.due("entry", x.entry(0, 4), 0);
        Check.due("appeal(0)", x.appeal(0), 4);
        Check.due("appeal(1)", x.appeal(1), -2);
    }

    private static void appealWithoutAFeather() {
        FeatherCourt x = Check.court("man a 10;man b 5;deed d 1;");
        x.fine(0, 0);
        Check.edge("12: -2, and nothing happens: he has no FEATHER");
        Check.refused(x, "appeal(0)", () -> x.appeal(0), -2);
        Check.due("it is not APPEALED", x.entry(0, 4), 0);
        Check.edge("12: a QUILL of his last FEATHER, whose ever it was");
        x.stuff(1, 0, 1);
        Check.due("appeal(0)", x.appeal(0), 5);
        Check.due("his goose", x.man(0, 0), 5);
        Check.due("the quill", x.led(NONE, 1), 1);
        Check.edge("12: -2 of one that was already and has none");
        FeatherCourt y = Check.court("man a 1;man b 0;deed d 1;fine d=times;");
        y.fine(0, 0);
        Check.due("appeal", y.appeal(0), 0);
        Check.due("bare", y.man(0, 0), 0);
        Check.due("appeal again", y.appeal(0), -2);
    }

    private static void halfRoundedDown() {
        Check.edge("12: half of what the ENTRY plucked, rounded down");
        for (int plucked = 0; plucked <= 9; plucked++) {
            FeatherCourt x = Check.court("man a 100;deed d 1;fine d=" + plucked + ";");
            x.fine(0, 0);
            Check.due("appeal of " + plucked, x.appeal(0), plucked / 2);
            Check.due("his goose", x.man(0, 0), 100 - plucked - 1 + plucked / 2);
            Check.due("the CHEST", x.count(3), plucked + 1 - plucked / 2);
        }
        Check.edge("12: half of what it plucked, not of what FINE told");
        FeatherCourt x = Check.court("man a 5;man b 9;deed d 1;");
        x.fine(0, 0);
        x.stuff(1, 0, 1);
        Check.due("appeal", x.appeal(0), 2);
    }

    private static void quillGoesFirst() {
        Check.edge("12: a QUILL first, then half comes back");
        FeatherCourt x = Check.court("man a 1;man b 9;man c 9;deed d 1;fine d=2;");
        x.stuff(0, 2, 1);
        x.stuff(1, 0, 3);
        x.fine(0, 0);
        // c's goose has plucked all its own, so that a's comes home
        x.stuff(2, 1, 9);
        x.stuff(2, 0, 1);
        // a: one of his own, one of b; the chest: two of b
        Check.due("appeal", x.appeal(0), 1);
        Check.due("the quill itself comes back", x.led(0, 0), 1);
        Check.due("b's", x.led(0, 1), 1);
        Check.due("the CHEST", x.led(NONE, 1), 2);
    }

    private static void comesBackInOrder() {
        Check.edge("12: those that grew on his goose first, then those of the others by numbers");
        // man c is fined 12: 2 of his own, 3 of a, 3 of b, 4 of d; a quill of d's
        int[][] due = {{0, 0, 2, 0}, {1, 0, 2, 0}, {3, 0, 2, 0}, {3, 1, 2, 0}};
        int[] halves = {2, 3, 5, 6};
        for (int i = 0; i < halves.length; i++) {
            FeatherCourt x = Check.court("man a 9;man b 9;man c 2;man d 9;deed e 1;fine e=" + 2 * halves[i] + ";deed f 1;fine f=12-2*"
                + halves[i] + ";");
            x.stuff(3, 2, 8);
            x.stuff(1, 2, 3);
            x.stuff(0, 2, 3);
            x.fine(2, 0);
            x.fine(2, 1);
            Check.due("left", x.man(2, 0), 4);
            Check.due("appeal", x.appeal(0), halves[i]);
            for (int from = 0; from < 4; from++) {
                int left = from == 3 ? 3 : 0;
                Check.due("half of " + 2 * halves[i] + ": of " + from, x.led(2, from), due[i][from] + left);
            }
        }
    }

    private static void comesBackHoweverManyItHas() {
        FeatherCourt x = Check.court("man a 999;man b 999;deed d 1;fine d=999;grow=999;");
        x.fine(0, 0);
        x.weeks(20);
        Check.edge("12: however many it has: it comes back above 9999");
        Check.due("full", x.man(0, 0), 9999);
        Check.due("appeal", x.appeal(0), 499);
        Check.due("above", x.man(0, 0), 10497);
        Check.edge("13, 14: false, and nothing happens: above 9999 already");
        Check.refused(x, "stuff", () -> x.stuff(1, 0, 1) ? 1 : 0, 0);
        Check.refused(x, "lend", () -> x.lend(1, 0, 1) ? 1 : 0, 0);
        Check.edge("16: what it has already stays");
        x.weeks(3);
        Check.due("above", x.man(0, 0), 10497);
        Check.due("the other one", x.man(1, 0), 9999);
        Check.edge("10: of a goose that has more than 9999");
        Check.due("fine", x.fine(0, 0), 999);
        x.weeks(1);
        Check.due("9498 grow to 9999", x.man(0, 0), 9999);
    }

    // ---- stuffed, lent, paid back ----

    private static void stuffs() {
        Check.edge("13: STUFFED 1 and more");
        FeatherCourt x = Check.court(Check.men(5, 3));
        Check.due("1", x.stuff(0, 1, 1), true);
        Check.due("from", x.man(0, 0), 4);
        Check.due("to", x.man(1, 0), 4);
        Check.edge("13: STUFFED as many as it has");
        Check.due("4", x.stuff(0, 1, 4), true);
        Check.due("from", x.man(0, 0), 0);
        Check.due("to", x.man(1, 0), 8);
        Check.edge("13: PLUCKED, its own first; no DEBT");
        Check.due("4", x.stuff(1, 0, 4), true);
        Check.due("b's", x.led(0, 1), 3);
        Check.due("a's own", x.led(0, 0), 1);
        Check.due("debt", x.debt(0, 1), 0);
        Check.due("debt", x.debt(1, 0), 0);
    }

    private static final String[] REFUSED = {"0 is not 1 and more", "below 0", "the least int", "not so many", "not so many, by far",
        "one and the same", "no such one from which", "no such one to which", "no MAN NONE from which", "no MAN NONE to which",
        "none there are"};
    private static final int[][] REFUSED_BY = {{0, 1, 0}, {0, 1, -1}, {0, 1, MIN}, {0, 1, 27}, {0, 1, MAX}, {1, 1, 1}, {3, 0, 1},
        {0, 3, 1}, {-1, 0, 1}, {0, -1, 1}, {2, 0, 1}};

    private static void stuffIsRefused() {
        for (int i = 0; i < REFUSED.length; i++) {
            int[] by = REFUSED_BY[i];
            String args = "(" + by[0] + ", " + by[1] + ", " + by[2] + ")";
            FeatherCourt x = Check.court("man a 26;man b 20;man c 0;");
            Check.edge("13: false, and nothing happens: " + REFUSED[i]);
            Check.refused(x, "stuff" + args, () -> x.stuff(by[0], by[1], by[2]) ? 1 : 0, 0);
            Check.edge("14: false, and nothing happens: " + REFUSED[i]);
            Check.refused(x, "lend" + args, () -> x.lend(by[0], by[1], by[2]) ? 1 : 0, 0);
        }
    }

    private static void lends() {
        Check.edge("14: LENT 1 and more, as many as it has");
        FeatherCourt x = Check.court(Check.men(5, 3, 0));
        Check.due("1", x.lend(0, 1, 1), true);
        Check.due("debt", x.debt(1, 0), 1);
        Check.due("4", x.lend(0, 1, 4), true);
        Check.due("debt", x.debt(1, 0), 5);
        Check.due("from", x.man(0, 0), 0);
        Check.due("to", x.man(1, 0), 8);
        Check.edge("14: the other one owes so many more, whose ever they are");
        Check.due("8", x.lend(1, 2, 8), true);
        Check.due("debt", x.debt(2, 1), 8);
        Check.due("debt", x.debt(2, 0), 0);
        Check.due("led", x.led(2, 0), 5);
        Check.edge("14: LENT, PLUCKED, its own first");
        Check.due("1", x.lend(2, 0, 6), true);
        Check.due("a's own", x.led(0, 0), 5);
        Check.due("b's", x.led(0, 1), 1);
    }

    /** Man a's goose has 9999, man b's so many. */
    private static FeatherCourt full(int other) {
        FeatherCourt x = Check.court("man a 999;man b " + other + ";man c 999;grow=if rank*rank<1 then 999 else 0;");
        x.weeks(20);
        Check.due("full", x.man(0, 0), 9999);
        return x;
    }

    private static void upTo9999() {
        Check.edge("13: up to 9999 FEATHERS");
        FeatherCourt x = full(500);
        Check.due("9499", x.stuff(0, 1, 9499), true);
        Check.due("full", x.man(1, 0), 9999);
        Check.edge("13: false, and nothing happens: above 9999 then");
        Check.refused(x, "one more", () -> x.stuff(2, 1, 1) ? 1 : 0, 0);
        FeatherCourt y = full(500);
        Check.refused(y, "9500", () -> y.stuff(0, 1, 9500) ? 1 : 0, 0);
        Check.refused(y, "all", () -> y.stuff(0, 1, 9999) ? 1 : 0, 0);
        Check.refused(y, "on a full one", () -> y.stuff(1, 0, 1) ? 1 : 0, 0);
        Check.edge("14: up to 9999 FEATHERS");
        FeatherCourt z = full(500);
        Check.due("9499", z.lend(0, 1, 9499), true);
        Check.due("full", z.man(1, 0), 9999);
        Check.due("debt", z.debt(1, 0), 9499);
        Check.edge("14: false, and nothing happens: above 9999 then");
        Check.refused(z, "one more", () -> z.lend(2, 1, 1) ? 1 : 0, 0);
        FeatherCourt v = full(500);
        Check.refused(v, "9500", () -> v.lend(0, 1, 9500) ? 1 : 0, 0);
        Check.refused(v, "on a full one", () -> v.lend(1, 0, 1) ? 1 : 0, 0);
        Check.edge("13: all 9999 on an empty one");
        FeatherCourt w = full(0);
        Check.due("9999", w.stuff(0, 1, 9999), true);
        Check.due("full", w.man(1, 0), 9999);
        Check.due("empty", w.man(0, 0), 0);
    }

    private static void wrapsOfHowMany() {
        Check.edge("13, 14: so many more that an int would wrap");
        FeatherCourt x = full(999);
        for (int n : new int[] {MAX, MAX - 998, MAX - 9999, MAX - 10998, 1 << 30}) {
            Check.due("stuff " + n, x.stuff(0, 1, n), false);
            Check.due("lend " + n, x.lend(0, 1, n), false);
            Check.due("stuff " + n, x.stuff(1, 0, n), false);
        }
        Check.due("debt", x.debt(1, 0), 0);
        Check.due("feathers", x.man(0, 0), 9999);
        Check.edge("15: so many that an int would wrap");
        x.lend(0, 1, 100);
        Check.due("repay MAX", x.repay(1, 0, MAX), 100);
        Check.due("debt", x.debt(1, 0), 0);
    }

    private static void repays() {
        Check.edge("15: PAID BACK, n at most");
        FeatherCourt x = Check.court(Check.men(20, 3, 9));
        x.lend(0, 1, 9);
        Check.due("1", x.repay(1, 0, 1), 1);
        Check.due("3", x.repay(1, 0, 3), 3);
        Check.due("debt", x.debt(1, 0), 5);
        Check.edge("15: no more than the DEBT is");
        Check.due("6", x.repay(1, 0, 6), 5);
        Check.due("debt", x.debt(1, 0), 0);
        Check.due("left", x.man(1, 0), 3);
        Check.edge("15: as much as the DEBT is");
        x.lend(0, 1, 2);
        Check.due("2", x.repay(1, 0, 2), 2);
        Check.edge("15: no more than he has");
        x.lend(0, 1, 9);
        x.stuff(1, 2, 8);
        Check.due("has 4", x.man(1, 0), 4);
        Check.due("9", x.repay(1, 0, 9), 4);
        Check.due("bare", x.man(1, 0), 0);
        Check.due("debt", x.debt(1, 0), 5);
        Check.edge("15: PLUCKED, its own first; to whom he owes, to no other one");
        FeatherCourt y = Check.court(Check.men(20, 3, 9));
        y.lend(0, 1, 4);
        y.lend(2, 1, 2);
        Check.due("4", y.repay(1, 0, 4), 4);
        Check.due("b's own", y.led(0, 1), 3);
        Check.due("a's", y.led(1, 0), 3);
        Check.due("c is owed as much", y.debt(1, 2), 2);
    }

    private static void repayIsRefused() {
        String[] says = {"0", "below 0", "the least int", "no DEBT", "no DEBT this way", "one and the same", "no such MAN",
            "no such one to whom", "no MAN NONE", "no one NONE"};
        int[][] by = {{1, 0, 0}, {1, 0, -1}, {1, 0, MIN}, {2, 0, 1}, {0, 1, 1}, {1, 1, 1}, {3, 0, 1}, {1, 3, 1}, {-1, 0, 1}, {1, -1, 1}};
        for (int i = 0; i < says.length; i++) {
            int[] one = by[i];
            Check.edge("15: NONE, and nothing happens: " + says[i]);
            FeatherCourt x = three();
            String call = "repay(" + one[0] + ", " + one[1] + ", " + one[2] + ")";
            Check.refused(x, call, () -> x.repay(one[0], one[1], one[2]), NONE);
        }
        Check.edge("15: NONE, and nothing happens: he has none");
        FeatherCourt x = three();
        x.stuff(1, 2, 26);
        Check.refused(x, "repay(1, 0, 3)", () -> x.repay(1, 0, 3), NONE);
        Check.edge("15: NONE, and nothing happens: the DEBT is paid back");
        FeatherCourt y = three();
        Check.due("repay(1, 0, 9)", y.repay(1, 0, 9), 6);
        Check.refused(y, "repay(1, 0, 9)", () -> y.repay(1, 0, 9), NONE);
    }

    private static void repayUpTo9999() {
        FeatherCourt x = full(500);
        x.lend(0, 1, 100);
        x.stuff(2, 0, 60);
        Check.edge("15: NONE, and nothing happens: above 9999 then");
        Check.refused(x, "41", () -> x.repay(1, 0, 41), NONE);
        Check.refused(x, "100", () -> x.repay(1, 0, 100), NONE);
        Check.edge("15: up to 9999");
        Check.due("40", x.repay(1, 0, 40), 40);
        Check.due("full", x.man(0, 0), 9999);
        Check.refused(x, "1", () -> x.repay(1, 0, 1), NONE);
        Check.edge("15: above 9999 is looked at for what is paid, not for n");
        FeatherCourt y = full(500);
        y.lend(0, 1, 100);
        y.stuff(2, 0, 60);
        y.stuff(1, 2, 565);
        Check.due("he has 35", y.man(1, 0), 35);
        Check.due("100 at most", y.repay(1, 0, 100), 35);
    }
}
