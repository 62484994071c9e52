/** Promises 6 to 17 and 30 to 32: men, geese, fines, appeals, loans, weeks, what is undone and held. */
public final class CourtTest {
    private static final int NONE = FeatherCourt.NONE;
    private static final int MIN = Integer.MIN_VALUE;
    private static final int MAX = Integer.MAX_VALUE;

    public static void main(String[] args) {
        men();
        ledAndDebt();
        tariffs();
        fines();
        entriesFull();
        appeals();
        quillOfAnother();
        stuffed();
        fullGoose();
        lentAndRepaid();
        repayEdges();
        weeks();
        growth();
        moults();
        undone();
        undoneEach();
        held();
        counts();
        Check.close("CourtTest");
    }

    private static void men() {
        FeatherCourt x = Check.court("man a 30;man b 20;man c 0;deed d 1;deed e 1;fine d = 4;cold 25;");
        x.fine(0, 0);
        x.fine(0, 1);
        x.lend(0, 1, 3);
        x.stuff(1, 2, 21);
        int[][] due = {{13, 13, 2, 3, 0, 0, 17}, {2, 0, 0, -3, 0, 0, 20}, {21, 0, 0, 0, 0, 0, 0}};
        // c has 20 of b and one of a, which is warmer than the others, but 25 is the wind; all like him best
        for (int m = 0; m < 3; m++) {
            due[m][5] = 2;
            for (int what = 0; what <= 6; what++) {
                Check.due("6: man(" + m + ", " + what + ")", x.man(m, what), due[m][what]);
            }
        }
        for (int what : new int[] {MIN, -1, 7, MAX}) {
            Check.due("6: man(0, " + what + ")", x.man(0, what), NONE);
        }
        for (int m : new int[] {MIN, -1, 3, 8, MAX}) {
            Check.due("6: man(" + m + ", 0)", x.man(m, 0), NONE);
        }
        x = Check.court("man a 5;man b 0;man c 0;warm = have;vote a = 0-rank;vote b = rank;vote c = 7;");
        Check.due("6: warm", x.man(0, 4), 1);
        Check.due("6: 0 is not warm", x.man(1, 4), 0);
        Check.due("6: a votes", x.man(0, 5), 0);
        Check.due("6: b votes", x.man(1, 5), 2);
        Check.due("6: c votes for the first of alike ones", x.man(2, 5), 0);
        x = Check.court("man a 5;man b 9;man c 7;");
        x.stuff(1, 2, 2);
        x.stuff(2, 0, 3);
        Check.due("6: b's, elsewhere", x.man(1, 6), 2);
        Check.due("6: b's, on it", x.man(1, 1), 7);
        Check.due("6: c's, elsewhere", x.man(2, 6), 3);
        Check.due("6: c's, on it", x.man(2, 1), 4);
        x = Check.court("man a 5;man b 5;vote a = have;vote b = times;deed d 1;fine d = 0;");
        x.fine(1, 0);
        Check.due("6: times are those of whom one votes for", x.man(1, 5), 1);
    }

    private static void ledAndDebt() {
        FeatherCourt x = Check.court("man a 9;man b 8;man c 7;deed d 1;fine d = 5;");
        x.stuff(1, 0, 6);
        x.fine(0, 0);
        x.fine(0, 0);
        // the chest: 9 of a's own, then one of b's
        Check.due("7: led(-1, 0)", x.led(-1, 0), 9);
        Check.due("7: led(-1, 1)", x.led(-1, 1), 1);
        Check.due("7: led(-1, 2)", x.led(-1, 2), 0);
        Check.due("7: led(0, 0)", x.led(0, 0), 0);
        Check.due("7: led(0, 1)", x.led(0, 1), 5);
        Check.due("7: led(1, 1)", x.led(1, 1), 2);
        Check.due("7: led(2, 2)", x.led(2, 2), 7);
        for (int m : new int[] {MIN, -2, 3, 8, MAX}) {
            Check.due("7: led(" + m + ", 0)", x.led(m, 0), NONE);
            Check.due("7: led(0, " + m + ")", x.led(0, m), NONE);
            Check.due("7: led(-1, " + m + ")", x.led(-1, m), NONE);
            Check.due("8: debt(" + m + ", 0)", x.debt(m, 0), NONE);
            Check.due("8: debt(0, " + m + ")", x.debt(0, m), NONE);
        }
        Check.due("7: led(0, -1)", x.led(0, -1), NONE);
        Check.due("8: debt(1, 1)", x.debt(1, 1), NONE);
        Check.due("8: debt(0, 1)", x.debt(0, 1), 0);
        x.lend(0, 1, 2);
        x.lend(1, 0, 1);
        Check.due("8: debt(1, 0)", x.debt(1, 0), 2);
        Check.due("8: debt(0, 1)", x.debt(0, 1), 1);
        Check.due("6: net of a", x.man(0, 3), 1);
        Check.due("6: net of b", x.man(1, 3), -1);
    }

    private static void tariffs() {
        FeatherCourt x = Check.court("man a 3;man b 50;deed d 1;deed e 1;deed f 1;fine e = times * 7 + rank;fine f = chest;");
        Check.due("9: not told", x.tariff(0, 0), 10);
        Check.due("9: more than there are", x.tariff(0, 0), 10);
        x.fine(1, 0);
        x.fine(1, 1);
        x.fine(1, 1);
        Check.due("9: times for that deed alone", x.tariff(1, 1), 15);
        Check.due("9: of another man", x.tariff(0, 1), 0);
        Check.due("9: the chest", x.tariff(0, 2), 19);
        for (int m : new int[] {MIN, -1, 2, 8, MAX}) {
            Check.due("9: tariff(" + m + ", 0)", x.tariff(m, 0), NONE);
            Check.due("10: fine(" + m + ", 0)", x.fine(m, 0), NONE);
        }
        for (int d : new int[] {MIN, -1, 3, 8, MAX}) {
            Check.due("9: tariff(0, " + d + ")", x.tariff(0, d), NONE);
            Check.due("10: fine(0, " + d + ")", x.fine(0, d), NONE);
        }
        Check.due("10: nothing happened", x.count(5), 3);
        Check.due("10: nothing to undo", x.count(9), 3);
    }

    private static void fines() {
        FeatherCourt x = Check.court("man a 7;man b 9;man c 9;man d 9;deed e 1;deed f 1;fine e = 5;fine f = 0;");
        x.stuff(3, 1, 2);
        x.stuff(2, 1, 3);
        x.stuff(0, 1, 1);
        // b: 9 of his own, 1 of a, 3 of c, 2 of d
        Check.due("10: fine", x.fine(1, 0), 5);
        Check.due("10: fine", x.fine(1, 0), 5);
        Check.due("10: his own first", x.led(-1, 1), 9);
        Check.due("10: then a's", x.led(-1, 0), 1);
        Check.due("10: then c's, not yet", x.led(-1, 2), 0);
        Check.due("10: fine", x.fine(1, 1), 0);
        Check.due("10: fine", x.fine(1, 0), 5);
        Check.due("10: c's", x.led(-1, 2), 3);
        Check.due("10: d's", x.led(-1, 3), 2);
        Check.due("10: none left", x.man(1, 0), 0);
        Check.due("10: all there are", x.fine(1, 0), 0);
        Check.due("6: times", x.man(1, 2), 5);
        x.weeks(2);
        Check.due("10: fine", x.fine(0, 0), 5);
        Check.due("10: no more than there are", x.fine(0, 0), 1);
        int[][] due = {{1, 0, 0, 5, 0}, {1, 0, 0, 5, 0}, {1, 1, 0, 0, 0}, {1, 0, 0, 5, 0}, {1, 0, 0, 0, 0}, {0, 0, 2, 5, 0},
            {0, 0, 2, 1, 0}};
        for (int i = 0; i < due.length; i++) {
            for (int what = 0; what < 5; what++) {
                Check.due("11: entry(" + i + ", " + what + ")", x.entry(i, what), due[i][what]);
            }
        }
        for (int i : new int[] {MIN, -1, 7, 300, MAX}) {
            Check.due("11: entry(" + i + ", 0)", x.entry(i, 0), NONE);
            Check.due("12: appeal(" + i + ")", x.appeal(i), NONE);
        }
        for (int what : new int[] {MIN, -1, 5, MAX}) {
            Check.due("11: entry(0, " + what + ")", x.entry(0, what), NONE);
        }
    }

    private static void entriesFull() {
        FeatherCourt x = Check.court("man a 999;deed d 1;deed e 2;fine d = 2;fine e = 999;");
        for (int i = 0; i < 300; i++) {
            Check.due("10: fine " + i, x.fine(0, 0), 2);
        }
        Check.due("10: a 301st", x.fine(0, 0), -2);
        Check.due("10: no such deed", x.fine(0, 2), NONE);
        Check.due("10: entries", x.count(5), 300);
        Check.due("10: chest", x.count(3), 600);
        Check.due("10: times", x.man(0, 2), 300);
        Check.due("17: undo", x.undo(), true);
        Check.due("10: there is room again", x.fine(0, 1), 401);
        Check.due("11: the last entry", x.entry(299, 1), 1);
        Check.due("11: the last entry", x.entry(299, 3), 401);
        Check.due("12: of the last entry, he has none", x.appeal(299), -2);
        Check.due("12: no such entry", x.appeal(300), NONE);
    }

    private static void appeals() {
        FeatherCourt x = Check.court("man a 20;man b 20;man c 20;deed d 1;fine d = 7;");
        x.fine(0, 0);
        x.fine(0, 0);
        Check.due("12: half of 7", x.appeal(0), 3);
        Check.due("12: 6 less the quill, 3 more", x.man(0, 0), 8);
        Check.due("12: the chest", x.count(3), 12);
        Check.due("11: it is appealed", x.entry(0, 4), 1);
        Check.due("11: what it plucked stays", x.entry(0, 3), 7);
        Check.due("11: the other one is not", x.entry(1, 4), 0);
        Check.due("12: once", x.appeal(0), -2);
        Check.due("12: nothing happens", x.man(0, 0), 8);
        Check.due("9: things to undo", x.count(9), 3);
        // all of a's go into the chest; with a quill of b's, what grew on his goose comes first, then the others' by numbers
        x = Check.court("man a 9;man b 9;man c 9;deed d 1;deed e 1;fine d = 9;fine e = 2;");
        x.stuff(2, 1, 8);
        x.stuff(0, 1, 6);
        // b: 6 of a, 9 of his own, 8 of c
        x.fine(1, 0);
        x.fine(1, 0);
        // the chest: 9 of b, 6 of a, 3 of c; b has 5 of c
        x.appeal(0);
        // the quill is c's; 4 of b's own come back
        Check.due("12: his own come back first", x.led(1, 1), 4);
        Check.due("12: his", x.led(1, 2), 4);
        x.stuff(1, 0, 4);
        x.appeal(1);
        Check.due("12: his own again", x.led(1, 1), 4);
        x.fine(0, 0);
        // a had 3 of his own, 4 of b: all plucked
        Check.due("12: he must have one", x.appeal(2), -2);
        Check.due("12: nothing is appealed", x.entry(2, 4), 0);
        x.stuff(2, 0, 1);
        x.stuff(1, 2, 7);
        Check.due("12: 3 of 7", x.appeal(2), 3);
        Check.due("12: a's own", x.led(0, 0), 3);
    }

    private static void quillOfAnother() {
        FeatherCourt x = Check.court("man a 1;man b 9;man c 9;deed d 1;fine d = 6;");
        x.stuff(2, 0, 5);
        x.stuff(1, 0, 2);
        x.fine(0, 0);
        // the chest: 1 of a, 2 of b, 3 of c; a has 2 of c
        Check.due("12: half", x.appeal(0), 3);
        Check.due("12: his own", x.led(0, 0), 1);
        Check.due("12: then b's", x.led(0, 1), 2);
        Check.due("12: one of c went", x.led(0, 2), 1);
        Check.due("12: chest", x.led(-1, 2), 4);
        // of nothing plucked nothing comes back, and the quill stays
        x = Check.court("man a 5;deed d 1;fine d = 1;");
        x.fine(0, 0);
        Check.due("12: half of one", x.appeal(0), 0);
        Check.due("12: the quill stays", x.count(3), 2);
    }

    private static void stuffed() {
        FeatherCourt x = Check.court("man a 10;man b 5;man c 5;");
        Check.due("13: stuff", x.stuff(0, 1, 4), true);
        Check.due("13: from", x.man(0, 0), 6);
        Check.due("13: to", x.man(1, 0), 9);
        Check.due("13: led", x.led(1, 0), 4);
        Check.due("13: no debt", x.debt(1, 0), 0);
        Check.due("13: plucked, its own first", x.stuff(1, 2, 7), true);
        Check.due("13: led", x.led(2, 1), 5);
        Check.due("13: led", x.led(2, 0), 2);
        int[][] none = {{0, 0, 1}, {-1, 0, 1}, {0, -1, 1}, {3, 0, 1}, {0, 3, 1}, {MIN, MAX, 1}, {0, 1, 0}, {0, 1, -1}, {0, 1, MIN},
            {0, 1, 7}, {0, 1, MAX}};
        for (int[] one : none) {
            String args = one[0] + ", " + one[1] + ", " + one[2];
            Check.due("13: stuff " + args, x.stuff(one[0], one[1], one[2]), false);
            Check.due("14: lend " + args, x.lend(one[0], one[1], one[2]), false);
        }
        Check.due("13: nothing happened", x.count(9), 2);
        Check.due("13: all that are there", x.stuff(0, 1, 6), true);
        Check.due("13: none left", x.stuff(0, 1, 1), false);
    }

    private static void fullGoose() {
        FeatherCourt x = Check.court("man a 999;man b 500;deed d 0;fine d = 999;grow = if 0 < rank then 0 else 999;");
        x.weeks(10);
        Check.due("16: no more than 9999", x.man(0, 0), 9999);
        Check.due("13: above 9999", x.stuff(1, 0, 1), false);
        Check.due("14: above 9999", x.lend(1, 0, 1), false);
        Check.due("14: lend", x.lend(0, 1, 100), true);
        Check.due("13: above 9999", x.stuff(1, 0, 101), false);
        Check.due("13: up to 9999", x.stuff(1, 0, 99), true);
        Check.due("15: above 9999 then", x.repay(1, 0, 2), NONE);
        Check.due("15: nothing happened", x.debt(1, 0), 100);
        Check.due("15: up to 9999", x.repay(1, 0, 1), 1);
        Check.due("13: still full", x.man(0, 0), 9999);
        x.fine(0, 0);
        x.weeks(2);
        Check.due("16: full again", x.man(0, 0), 9999);
        Check.due("12: however many it has", x.appeal(0), 499);
        Check.due("12: more than 9999", x.man(0, 0), 10497);
        x.weeks(1);
        Check.due("16: what it has already stays", x.man(0, 0), 10497);
        Check.due("13: above 9999", x.stuff(1, 0, 1), false);
        Check.due("13: onto the other one", x.stuff(0, 1, 9499), true);
        Check.due("13: 9999", x.man(1, 0), 9999);
    }

    private static void lentAndRepaid() {
        FeatherCourt x = Check.court("man a 10;man b 5;man c 5;");
        Check.due("14: lend", x.lend(0, 1, 6), true);
        Check.due("14: debt", x.debt(1, 0), 6);
        Check.due("14: not the other way", x.debt(0, 1), 0);
        Check.due("14: led", x.led(1, 0), 6);
        Check.due("14: lend more", x.lend(0, 1, 1), true);
        Check.due("14: debt", x.debt(1, 0), 7);
        Check.due("15: repay", x.repay(1, 0, 3), 3);
        Check.due("15: debt", x.debt(1, 0), 4);
        Check.due("15: plucked, its own first", x.led(0, 1), 3);
        Check.due("15: no more than it is", x.repay(1, 0, MAX), 4);
        Check.due("15: own, then the other's", x.led(0, 1), 5);
        Check.due("15: then the other's", x.led(1, 0), 5);
        Check.due("15: none is left", x.repay(1, 0, 1), NONE);
        Check.due("15: nothing happens", x.count(9), 4);
    }

    private static void repayEdges() {
        FeatherCourt x = Check.court("man a 10;man b 0;man c 5;");
        x.lend(0, 1, 6);
        x.stuff(1, 2, 4);
        Check.due("15: 0", x.repay(1, 0, 0), NONE);
        Check.due("15: below 0", x.repay(1, 0, -5), NONE);
        Check.due("15: min", x.repay(1, 0, MIN), NONE);
        Check.due("15: oneself", x.repay(1, 1, 1), NONE);
        Check.due("15: no such one", x.repay(3, 0, 1), NONE);
        Check.due("15: no such one", x.repay(0, 3, 1), NONE);
        Check.due("15: no such one", x.repay(-1, 0, 1), NONE);
        Check.due("15: no such one", x.repay(1, -1, 1), NONE);
        Check.due("15: no such debt", x.repay(0, 1, 1), NONE);
        Check.due("15: no more than he has", x.repay(1, 0, 5), 2);
        Check.due("15: he has none", x.repay(1, 0, 5), NONE);
        Check.due("15: debt", x.debt(1, 0), 4);
    }

    private static void weeks() {
        FeatherCourt x = Check.court("man a 10;man b 20;grow = wind + week;cold 1 10 100;");
        Check.due("16: weeks(0)", x.weeks(0), 0);
        Check.due("16: no thing done", x.count(9), 0);
        Check.due("16: weeks(1)", x.weeks(1), 1);
        Check.due("16: grown by the week that goes", x.man(0, 0), 11);
        Check.due("16: weeks(2)", x.weeks(2), 3);
        Check.due("16: 11 and 102 more", x.man(1, 0), 134);
        Check.due("16: on its own goose", x.led(1, 1), 134);
        Check.due("16: things done", x.count(9), 2);
        for (int n : new int[] {MIN, -1, 101, MAX}) {
            Check.due("16: weeks(" + n + ")", x.weeks(n), NONE);
        }
        Check.due("16: weeks(100)", x.weeks(100), 103);
        Check.due("32: week", x.count(2), 103);
    }

    private static void growth() {
        FeatherCourt x = Check.court("man a 10;man b 4;deed d 1;fine d = 3;grow = have * have + times - chest + rank;");
        x.fine(0, 0);
        x.fine(1, 0);
        x.stuff(0, 1, 5);
        // a 2, b 6: 4 + 1 - 6 + 0 is below 0; 36 + 1 - 6 + 1
        x.weeks(1);
        Check.due("16: below 0 is 0", x.man(0, 0), 2);
        Check.due("16: b", x.man(1, 0), 38);
        x.weeks(1);
        // 38 * 38 + 1 - 6 + 1 is more than 999
        Check.due("16: above 999 is 999", x.man(1, 0), 1037);
        Check.due("16: his own", x.man(1, 1), 1032);
        x = Check.court("man a 10;grow = 5 / week;");
        x.weeks(2);
        Check.due("16: divided by 0 is 0", x.man(0, 0), 15);
    }

    private static void moults() {
        FeatherCourt x = Check.court("man a 99;deed d 1;deed e 1;fine d = 1 + times;grow = times;moult 3;");
        x.weeks(1);
        x.fine(0, 0);
        x.fine(0, 0);
        x.fine(0, 1);
        Check.due("9: tariff", x.tariff(0, 0), 3);
        Check.due("6: times", x.man(0, 2), 3);
        x.weeks(1);
        Check.due("16: times in week 2", x.man(0, 2), 3);
        int have = x.man(0, 0);
        x.weeks(1);
        Check.due("16: grown by the times ahead of the moult", x.man(0, 0), have + 3);
        Check.due("16: times in week 3", x.man(0, 2), 0);
        Check.due("9: tariff behind it", x.tariff(0, 0), 1);
        Check.due("11: entries stay", x.count(5), 3);
        x.fine(0, 0);
        Check.due("6: times", x.man(0, 2), 1);
        x.undo();
        x.undo();
        Check.due("17: times are as they were", x.man(0, 2), 3);
        x.hold(0);
        x.weeks(7);
        x.fine(0, 0);
        Check.due("16: one since week 9", x.man(0, 2), 1);
        x.weeks(2);
        Check.due("16: none since week 12... not yet, it is 11", x.man(0, 2), 1);
        x.weeks(1);
        Check.due("16: week 12", x.man(0, 2), 0);
        x.restore(0);
        Check.due("31: times", x.man(0, 2), 3);
        // many weeks at once: the moult lies amid them
        x.weeks(4);
        Check.due("16: 3 once more, then none", x.man(0, 0), have + 3);
    }

    private static void undone() {
        FeatherCourt x = Check.court("man a 999;deed d 1;fine d = 1;");
        Check.due("17: nothing", x.undo(), false);
        for (int i = 0; i < 30; i++) {
            x.fine(0, 0);
            Check.due("32: things to undo", x.count(9), Math.min(25, i + 1));
        }
        for (int i = 0; i < 25; i++) {
            Check.due("17: undo", x.undo(), true);
            Check.due("17: feathers", x.man(0, 0), 970 + i);
        }
        Check.due("17: a 26th", x.undo(), false);
        Check.due("17: entries", x.count(5), 5);
        Check.due("32: none", x.count(9), 0);
        x.fine(0, 0);
        Check.due("17: undo", x.undo(), true);
        Check.due("17: no more", x.undo(), false);
    }

    /** Everything of the village that can be asked, in one number. */
    private static long all(FeatherCourt x) {
        long sum = 17;
        for (int a = -1; a < 4; a++) {
            for (int b = -1; b < 7; b++) {
                sum = sum * 31 + x.man(a, b);
                sum = sum * 31 + x.led(a, b);
                sum = sum * 31 + x.debt(a, b);
                sum = sum * 31 + x.tariff(a, b);
                sum = sum * 31 + x.entry(a, b);
            }
        }
        for (int what : new int[] {2, 3, 4, 5}) {
            sum = sum * 31 + x.count(what);
        }
        return sum;
    }

    private static final int STEPS = 7;

    private static void step(FeatherCourt x, int which) {
        switch (which) {
            case 0: x.fine(0, 0); break;
            case 1: x.stuff(1, 0, 9); break;
            case 2: x.lend(0, 1, 3); break;
            case 3: x.weeks(3); break;
            case 4: x.fine(0, 1); break;
            case 5: x.repay(1, 0, 2); break;
            default: x.appeal(0);
        }
    }

    private static void undoneEach() {
        String text = "man a 30;man b 20;deed d 1;deed e 1;fine d = 4 + times;grow = 2 + times;moult 2;";
        for (int done = 0; done < STEPS; done++) {
            FeatherCourt x = Check.court(text);
            for (int i = 0; i < done; i++) {
                step(x, i);
            }
            int toUndo = x.count(9);
            FeatherCourt y = Check.court(text);
            for (int i = 0; i < done; i++) {
                step(y, i);
            }
            step(x, done);
            Check.due("17: step " + done + " is a thing done", x.count(9), toUndo + 1);
            Check.due("17: step " + done + " is undone", x.undo(), true);
            Check.due("17: all is as ahead of step " + done, all(x), all(y));
        }
    }

    private static void held() {
        FeatherCourt x = Check.court("man a 30;man b 20;deed d 1;fine d = 4 + times;grow = 2;");
        for (int slot : new int[] {MIN, -1, 3, MAX}) {
            Check.due("30: hold(" + slot + ")", x.hold(slot), false);
            Check.due("31: restore(" + slot + ")", x.restore(slot), false);
        }
        Check.due("31: nothing is held", x.restore(0), false);
        Check.due("30: hold(2)", x.hold(2), true);
        x.fine(0, 0);
        x.lend(0, 1, 5);
        x.appeal(0);
        x.tell(1, 3);
        x.weeks(2);
        Check.due("30: hold(0)", x.hold(0), true);
        Check.due("32: slots", x.count(11), 2);
        Check.due("30: nothing done", x.count(9), 4);
        Check.due("31: slot 1 is empty", x.restore(1), false);
        Check.due("31: nothing happens", x.count(9), 4);
        Check.due("31: restore(2)", x.restore(2), true);
        int[] start = {2, 1, 0, 0, 50, 0, 0, 0, 0, 0, 1, 2};
        for (int what = 0; what < start.length; what++) {
            Check.due("31: count(" + what + ")", x.count(what), start[what]);
        }
        Check.due("31: no debt", x.debt(1, 0), 0);
        Check.due("31: tariff", x.tariff(0, 0), 4);
        Check.due("31: nothing can be undone", x.undo(), false);
        x.fine(1, 0);
        x.fine(1, 0);
        Check.due("31: restore(0)", x.restore(0), true);
        Check.due("31: entries", x.count(5), 1);
        Check.due("31: the entry's man", x.entry(0, 0), 0);
        Check.due("31: it is appealed", x.entry(0, 4), 1);
        Check.due("31: debt", x.debt(1, 0), 5);
        Check.due("31: week", x.count(2), 2);
        Check.due("31: times", x.man(0, 2), 1);
        Check.due("31: times", x.man(1, 2), 0);
        Check.due("31: feathers", x.man(0, 0), 26);
        x.fine(0, 0);
        Check.due("31: it stays there", x.restore(0), true);
        Check.due("31: entries", x.count(5), 1);
        Check.due("30: held again", x.hold(2), true);
        x.weeks(1);
        Check.due("31: what is held last", x.restore(2), true);
        Check.due("31: week", x.count(2), 2);
    }

    private static void counts() {
        FeatherCourt x = Check.court("man a 30;man b 20;man c 1;deed d 1;deed e 2;cold 1 2 3 4;moult 9;");
        x.fine(0, 0);
        x.fine(1, 0);
        x.stuff(0, 1, 3);
        x.weeks(5);
        x.tell(1, 1);
        x.tell(2, 1);
        x.hold(1);
        Check.feed(x, "man");
        int[] due = {3, 2, 5, 20, 31, 2, 4, 9, 3, 4, 2, 1};
        for (int what = 0; what < due.length; what++) {
            Check.due("32: count(" + what + ")", x.count(what), due[what]);
        }
        for (int what : new int[] {MIN, -1, 12, MAX}) {
            Check.due("32: count(" + what + ")", x.count(what), NONE);
        }
    }
}
