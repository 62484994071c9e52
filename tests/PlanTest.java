/** Promises 18 to 29: what would be, what one did, who was stuffed. */
public final class PlanTest {
    private static final int NONE = FeatherCourt.NONE;
    private static final int MIN = Integer.MIN_VALUE;
    private static final int MAX = Integer.MAX_VALUE;

    public static void main(String[] args) {
        payments();
        paymentsInGroups();
        warmBy();
        warm();
        quilts();
        quiltsOfAlikeGuilt();
        quiltEdges();
        largeQuilt();
        elected();
        bald();
        did();
        surely();
        tells();
        stuffers();
        stufferEdges();
        nothingHappens();
        Check.close("PlanTest");
    }

    private static void payments() {
        FeatherCourt x = Check.court(Check.men(50, 50, 50, 50));
        Check.due("18: no debts", x.payments(), 0);
        x.lend(0, 1, 5);
        Check.due("18: one", x.payments(), 1);
        x.lend(1, 2, 5);
        Check.due("18: b is even, c pays a", x.payments(), 1);
        x.lend(2, 3, 2);
        Check.due("18: c pays 3, d 2", x.payments(), 2);
        x.lend(3, 0, 2);
        Check.due("18: d is even", x.payments(), 1);
        x.lend(2, 0, 3);
        Check.due("18: all are even, though all owe", x.payments(), 0);
        Check.due("18: debts stay", x.debt(1, 0), 5);
        x = Check.court(Check.men(50, 50, 50));
        x.lend(1, 2, 4);
        Check.due("18: the first is even from the start", x.payments(), 1);
        x.lend(0, 1, 4);
        Check.due("18: the second is even", x.payments(), 1);
        x.lend(2, 0, 4);
        Check.due("18: all are", x.payments(), 0);
    }

    /** Lends so that each net is as told: from those above 0 to those below. */
    private static FeatherCourt withNets(int... nets) {
        int[] feathers = new int[nets.length];
        java.util.Arrays.fill(feathers, 100);
        FeatherCourt x = Check.court(Check.men(feathers));
        int[] left = nets.clone();
        for (int a = 0; a < left.length; a++) {
            for (int b = 0; b < left.length; b++) {
                int n = Math.min(left[a], -left[b]);
                if (n > 0) {
                    x.lend(a, b, n);
                    left[a] -= n;
                    left[b] += n;
                }
            }
            Check.due("6: net of " + a, left[a], left[a] < 0 ? left[a] : 0);
        }
        return x;
    }

    private static void paymentsInGroups() {
        Check.due("18: two pairs", withNets(3, 5, -3, -5).payments(), 2);
        Check.due("18: one group", withNets(3, 5, -4, -4).payments(), 3);
        Check.due("18: a group of 3 and a pair", withNets(1, 7, 2, -7, -3).payments(), 3);
        Check.due("18: 8 in four pairs", withNets(1, 2, 3, 4, -4, -3, -2, -1).payments(), 4);
        Check.due("18: 8 in one", withNets(10, 10, 10, 10, -1, -1, -1, -37).payments(), 7);
        Check.due("18: 8 in groups", withNets(5, 6, 9, 1, -2, -3, -8, -8).payments(), 6);
        Check.due("18: 8 in two", withNets(9, 9, 9, 9, -13, -5, -11, -7).payments(), 6);
    }

    private static void warmBy() {
        FeatherCourt x = Check.court(Check.men(10, 3, 0) + "grow = if rank < 2 then 2 else 0;cold 12 20;");
        // a has 10, 12, 14 ..; the wind is 12, 20, 12 ..
        Check.due("19: a", x.warmBy(0), 2);
        Check.due("19: b: 3 + 2 * 6 is the first above 12 in an even week", x.warmBy(1), 6);
        Check.due("19: never", x.warmBy(2), -2);
        x.weeks(1);
        Check.due("19: a, one week on", x.warmBy(0), 1);
        for (int m : new int[] {MIN, -1, 3, MAX}) {
            Check.due("19: warmBy(" + m + ")", x.warmBy(m), NONE);
        }
        x = Check.court(Check.men(1) + "warm = week - 199;");
        Check.due("19: 200 weeks", x.warmBy(0), 200);
        x = Check.court(Check.men(1) + "warm = week - 200;");
        Check.due("19: 201 weeks", x.warmBy(0), -2);
        x.weeks(1);
        Check.due("19: 200 weeks", x.warmBy(0), 200);
        x = Check.court(Check.men(1) + "warm = 1 / week;");
        Check.due("19: divided by 0", x.warmBy(0), 1);
        x = Check.court(Check.men(50) + "deed d 1;warm = 1 - times;moult 4;");
        x.weeks(1);
        Check.due("19: now", x.warmBy(0), 0);
        x.fine(0, 0);
        Check.due("19: behind the moult", x.warmBy(0), 3);
        x = Check.court(Check.men(50) + "deed d 1;warm = have - 70;grow = times;moult 4;");
        x.fine(0, 0);
        x.fine(0, 0);
        Check.due("19: nothing grows behind the moult", x.warmBy(0), -2);
        x = Check.court(Check.men(50) + "deed d 1;warm = 1 - times;moult 1;");
        x.fine(0, 0);
        Check.due("19: not now", x.warm(0), 0);
        Check.due("19: a moult each week", x.warmBy(0), 1);
    }

    private static void warm() {
        FeatherCourt x = Check.court(Check.men(10, 3, 0) + "grow = if rank < 2 then 2 else 0;cold 12 20;");
        Check.due("20: now", x.warm(0), 0);
        Check.due("20: week 1", x.warm(1), 0);
        Check.due("20: week 2", x.warm(2), 1);
        Check.due("20: week 5: 20 is not above 20", x.warm(5), 0);
        Check.due("20: week 6", x.warm(6), 3);
        Check.due("20: week 7", x.warm(7), 1);
        Check.due("20: week 200", x.warm(200), 3);
        for (int n : new int[] {MIN, -1, 201, MAX}) {
            Check.due("20: warm(" + n + ")", x.warm(n), NONE);
        }
        x = Check.court(Check.men(5, 6, 7, 8, 9, 1, 2, 3) + "cold 5;");
        Check.due("20: eight", x.warm(0), 30);
        x = Check.court(Check.men(999) + "grow = 999;warm = if have < 9999 then 0 else 1;");
        Check.due("20: 9990", x.warm(9), 0);
        Check.due("20: no more than 9999", x.warm(10), 1);
        Check.due("20: none", new FeatherCourt().warm(3), 0);
    }

    private static void quilts() {
        FeatherCourt x = Check.court(Check.men(10, 4, 0)
            + "deed d 5;deed e 3;deed f 9;fine d = 6;fine e = 3;fine f = 9;");
        int[][] due = {{1, 3, 3, 0, 2}, {3, 3, 3, 0, 2}, {4, 5, 4, 0, 1}, {6, 5, 6, 1, 0}, {9, 8, 9, 1, 2}};
        for (int[] one : due) {
            int n = one[0];
            Check.due("21: guilt for " + n, x.quilt(n, 0), one[1]);
            Check.due("21: come for " + n, x.quilt(n, 1), one[2]);
            Check.due("22: a for " + n, x.quiltOf(n, 0), one[3]);
            Check.due("22: b for " + n, x.quiltOf(n, 1), one[4]);
            Check.due("22: c for " + n, x.quiltOf(n, 2), 0);
        }
        // 6 of a for d and 4 of b for d; 9 of a and 3 of b would be 11
        Check.due("21: guilt for 10", x.quilt(10, 0), 10);
        Check.due("21: come for 10", x.quilt(10, 1), 10);
        Check.due("22: a for 10", x.quiltOf(10, 0), 1);
        Check.due("22: b for 10", x.quiltOf(10, 1), 1);
        // a must give 10 (d and f, 14; or e and f, 12), b 4 (d: 5)
        Check.due("21: guilt for 14", x.quilt(14, 0), 17);
        Check.due("21: come for 14", x.quilt(14, 1), 14);
        Check.due("22: a for 14", x.quiltOf(14, 0), 6);
        Check.due("22: b for 14", x.quiltOf(14, 1), 1);
        Check.due("21: more than all have", x.quilt(15, 0), -2);
        Check.due("22: more than all have", x.quiltOf(15, 0), -2);
        x.fine(0, 0);
        x.fine(0, 2);
        // a has none left; b's e gives 3, his d 4
        Check.due("21: as they are now", x.quilt(4, 0), 5);
        Check.due("21: none of a", x.quilt(5, 0), -2);
    }

    private static void quiltsOfAlikeGuilt() {
        FeatherCourt x = Check.court(Check.men(10, 10, 10) + "deed d 2;deed e 2;deed f 4;fine d = 3;fine e = 3;fine f = 6;");
        Check.due("21: 3", x.quilt(3, 0), 2);
        Check.due("22: the least bits of a", x.quiltOf(3, 0), 0);
        Check.due("22: then of b", x.quiltOf(3, 1), 0);
        Check.due("22: c", x.quiltOf(3, 2), 1);
        Check.due("21: 6", x.quilt(6, 0), 4);
        Check.due("22: c: d and e are less than f", x.quiltOf(6, 2), 3);
        Check.due("21: 13", x.quilt(13, 0), 10);
        Check.due("22: a gives 0, b 6 at least", x.quiltOf(13, 0), 0);
        Check.due("22: b: d, which is less than d and e", x.quiltOf(13, 1), 1);
        Check.due("22: c: d, e and f give 10 of 12", x.quiltOf(13, 2), 7);
        x = Check.court(Check.men(5, 5) + "deed d 0;deed e 0;fine d = 2;fine e = 0;");
        Check.due("21: no guilt at all", x.quilt(2, 0), 0);
        Check.due("21: no more than need be", x.quilt(2, 1), 2);
        Check.due("22: a", x.quiltOf(2, 0), 0);
        Check.due("22: b", x.quiltOf(2, 1), 1);
        Check.due("22: both", x.quiltOf(4, 0), 1);
        Check.due("21: none gives so many", x.quilt(5, 0), -2);
    }

    private static void quiltEdges() {
        FeatherCourt x = Check.court(Check.men(999) + "deed d 7;fine d = 400;");
        Check.due("21: 400", x.quilt(400, 0), 7);
        Check.due("21: 1", x.quilt(1, 1), 400);
        for (int n : new int[] {MIN, -1, 0, 401, MAX}) {
            Check.due("21: quilt(" + n + ", 0)", x.quilt(n, 0), NONE);
            Check.due("22: quiltOf(" + n + ", 0)", x.quiltOf(n, 0), NONE);
        }
        for (int what : new int[] {MIN, -1, 2, MAX}) {
            Check.due("21: quilt(1, " + what + ")", x.quilt(1, what), NONE);
            Check.due("22: quiltOf(1, " + (what == 2 ? 1 : what) + ")", x.quiltOf(1, what == 2 ? 1 : what), NONE);
        }
        x = Check.court(Check.men(3));
        Check.due("21: no deeds", x.quilt(1, 0), -2);
        Check.due("21: NONE first", x.quilt(1, 2), NONE);
        Check.due("22: no deeds", x.quiltOf(1, 0), -2);
        Check.due("22: NONE first", x.quiltOf(1, 1), NONE);
        x = Check.court(Check.men(0, 0) + "deed d 1;");
        Check.due("21: no feathers", x.quilt(1, 0), -2);
    }

    private static void largeQuilt() {
        StringBuilder text = new StringBuilder(Check.men(40, 60, 50, 30, 70, 90, 20, 60));
        for (int i = 0; i < 8; i++) {
            text.append("deed d").append((char) ('a' + i)).append(' ').append(99 - i).append(";fine d").append((char) ('a' + i));
            text.append(" = ").append(9 + i).append(';');
        }
        FeatherCourt x = Check.court(text.toString());
        Check.due("21: all together have 420", x.quilt(400, 1) >= 400 ? 1 : 0, 1);
        int sum = 0;
        for (int m = 0; m < 8; m++) {
            int set = x.quiltOf(400, m);
            for (int d = 0; d < 8; d++) {
                sum += (set >> d & 1) == 1 ? 99 - d : 0;
            }
        }
        Check.due("21: guilt is that of the deeds", x.quilt(400, 0), sum);
    }

    private static void elected() {
        FeatherCourt x = Check.court(Check.men(10, 30, 20));
        Check.due("23: all vote for who has most", x.elected(0), 1);
        Check.due("23: votes", x.elected(1), 3);
        x = Check.court(Check.men(10, 30, 20) + "vote ma = 0 - rank;vote mc = rank;");
        Check.due("23: one vote each, the fewest feathers", x.elected(0), 0);
        Check.due("23: one vote", x.elected(1), 1);
        x = Check.court(Check.men(10, 10, 20) + "vote ma = rank - rank * rank;vote mb = 0 - rank * rank + 2 * rank;vote mc = rank;");
        Check.due("6: a votes for a, of alike ones the first", x.man(0, 5), 0);
        Check.due("6: b votes for b", x.man(1, 5), 1);
        Check.due("23: of alike feathers the first", x.elected(0), 0);
        x = Check.court(Check.men(10, 5, 20, 40) + "vote ma = 0-have;vote mb = 5 / (have - 20);vote mc = 7;");
        Check.due("6: a: the fewest", x.man(0, 5), 1);
        Check.due("6: b: divided by 0 is 0, as 5 / 20 and 5 / -10 are", x.man(1, 5), 0);
        Check.due("6: c: the first of alike ones", x.man(2, 5), 0);
        Check.due("6: d: the most", x.man(3, 5), 3);
        Check.due("23: two votes", x.elected(0), 0);
        Check.due("23: two votes", x.elected(1), 2);
        for (int what : new int[] {MIN, -1, 2, MAX}) {
            Check.due("23: elected(" + what + ")", x.elected(what), NONE);
            Check.due("23: elected(" + what + ")", new FeatherCourt().elected(what), NONE);
        }
        Check.due("23: no men", new FeatherCourt().elected(0), -2);
        Check.due("23: no men", new FeatherCourt().elected(1), -2);
        x = Check.court(Check.men(10, 10) + "deed d 1;fine d = 0;vote ma = times;vote mb = times * 2 + chest + week + wind;cold 3;");
        x.fine(1, 0);
        Check.due("23: times of whom one votes for", x.elected(0), 1);
        Check.due("23: both", x.elected(1), 2);
    }

    private static void bald() {
        FeatherCourt x = Check.court(Check.men(10, 30, 20) + "vote ma = 0-have;vote mb = 0-have;vote mc = 0-have;");
        Check.due("24: he is", x.bald(0), 0);
        Check.due("24: 9 left; at 10 a comes first", x.bald(1), 21);
        Check.due("24: 9 left", x.bald(2), 11);
        for (int m : new int[] {MIN, -1, 3, MAX}) {
            Check.due("24: bald(" + m + ")", x.bald(m), NONE);
        }
        x = Check.court(Check.men(10, 30, 20));
        Check.due("24: by none", x.bald(0), -2);
        x = Check.court(Check.men(10, 30) + "vote ma = 0 - rank;vote mb = rank;");
        Check.due("24: one vote each, then the fewest feathers", x.bald(1), 21);
        Check.due("23: now", x.elected(0), 0);
        x = Check.court(Check.men(7, 3) + "vote ma = if have < 1 then rank * 9 + 1 else 0 - rank;vote mb = 0 - rank;");
        Check.due("24: all feathers", x.bald(0), 0);
        x = Check.court(Check.men(7, 3) + "vote ma = if have < 1 then 5 else 0 - rank;vote mb = if have < 1 then 5 else 0 - rank;");
        Check.due("24: all feathers", x.bald(1), 3);
        x = Check.court(Check.men(20, 20, 20) + "vote ma = (have - 12) * (12 - have);vote mb = 0 - rank;vote mc = rank;");
        Check.due("24: a would vote for the third, if he had less", x.bald(2), 1);
        x = Check.court(Check.men(20, 20) + "deed d 1;fine d = 5;vote ma = chest * rank;vote mb = 0-rank;");
        Check.due("24: the chest stays as it is", x.bald(1), -2);
    }

    private static void did() {
        FeatherCourt x = Check.court(Check.men(50, 3) + "deed d 1;deed e 1;fine d = 2 + rank;fine e = 3;");
        int[][] due = {{0, 1}, {1, 0}, {2, 1}, {3, 1}, {4, 1}, {5, 1}, {6, 2}, {7, 1}, {8, 1}, {9, 2}, {10, 0}, {11, 1}, {12, 1},
            {13, 1}, {14, 0}, {15, 1}, {16, 0}};
        for (int[] one : due) {
            if (one[0] != 10) {
                Check.due("25: did(0, " + one[0] + ")", x.did(0, one[0]), one[1]);
            }
        }
        // 2 * 2 + 3 * 2
        Check.due("25: did(0, 10)", x.did(0, 10), 1);
        Check.due("25: of another man, however few feathers he has", x.did(1, 9), 4);
        for (int m : new int[] {MIN, -1, 2, MAX}) {
            Check.due("25: did(" + m + ", 0)", x.did(m, 0), NONE);
            Check.due("26: surely(" + m + ", 0)", x.surely(m, 0), NONE);
        }
        for (int n : new int[] {MIN, -1, 10000, MAX}) {
            Check.due("25: did(0, " + n + ")", x.did(0, n), NONE);
            Check.due("26: surely(0, " + n + ")", x.surely(0, n), NONE);
        }
        x = Check.court(Check.men(1) + "deed d 1;deed e 1;fine d = 0;fine e = 999;");
        Check.due("25: of a fine of 0 all four numbers", x.did(0, 2997), 4);
        Check.due("25: 9999", x.did(0, 9999), 0);
        StringBuilder text = new StringBuilder(Check.men(1));
        for (int i = 0; i < 8; i++) {
            text.append("deed d").append((char) ('a' + i)).append(" 1;fine d").append((char) ('a' + i)).append(" = 1;");
        }
        x = Check.court(text.toString());
        Check.due("25: 8 deeds, 24", x.did(0, 24), 1);
        Check.due("25: 8 deeds, 1", x.did(0, 1), 8);
        Check.due("25: 8 deeds, 12", x.did(0, 12), 8092);
        Check.due("25: 8 deeds, 25", x.did(0, 25), 0);
        x = Check.court(text.toString().replace("= 1;", "= 0;"));
        Check.due("25: 8 deeds for nothing", x.did(0, 0), 65536);
        Check.due("26: none of them surely", x.surely(0, 0), 0);
        x = Check.court(Check.men(1));
        Check.due("25: no deeds", x.did(0, 0), 1);
        Check.due("25: no deeds", x.did(0, 1), 0);
        Check.due("26: no deeds", x.surely(0, 0), 0);
    }

    private static void surely() {
        FeatherCourt x = Check.court(Check.men(50) + "deed d 1;deed e 1;deed f 1;fine d = 2;fine e = 3;fine f = 20;");
        Check.due("26: one row, nothing done", x.surely(0, 0), 0);
        Check.due("26: d", x.surely(0, 2), 1);
        Check.due("26: d and e", x.surely(0, 5), 3);
        Check.due("26: d thrice or e twice", x.surely(0, 6), 0);
        Check.due("26: d once with e, or thrice with e", x.surely(0, 9), 2);
        Check.due("26: f", x.surely(0, 26), 4);
        Check.due("26: all", x.surely(0, 75), 7);
        Check.due("26: no rows", x.surely(0, 1), 0);
        x = Check.court(Check.men(50) + "deed d 1;deed e 1;fine d = 5 + times;fine e = 7;");
        x.fine(0, 0);
        Check.due("26: at the fine as it is now", x.surely(0, 6), 1);
        Check.due("26: not as it was", x.surely(0, 5), 0);
        Check.due("25: not as it was", x.did(0, 5), 0);
    }

    private static void tells() {
        FeatherCourt x = Check.court(Check.men(5, 5, 5));
        int[][] none = {{0, 1}, {-1, 1}, {8, 1}, {9, 1}, {MIN, 1}, {MAX, 1}, {1, -1}, {1, 10000}, {1, MIN}, {1, MAX}};
        for (int[] one : none) {
            Check.due("27: tell(" + one[0] + ", " + one[1] + ")", x.tell(one[0], one[1]), NONE);
        }
        Check.due("27: nothing happened", x.count(10), 0);
        for (int i = 0; i < 20; i++) {
            Check.due("27: tell", x.tell(1 + i % 7, i % 2 == 0 ? 0 : 9999), i);
        }
        Check.due("27: a 21st", x.tell(1, 1), NONE);
        Check.due("27: 20 are there", x.count(10), 20);
        Check.due("17: it is no thing done", x.undo(), false);
        Check.due("28: forget", x.forget(), 20);
        Check.due("28: forget again", x.forget(), 0);
        Check.due("27: numbered from 0 on", x.tell(7, 3), 0);
        x = Check.court(Check.men(1, 1, 1, 1, 1, 1, 1, 1));
        Check.due("27: all eight", x.tell(255, 3), 0);
        Check.due("27: no ninth", x.tell(256, 3), NONE);
    }

    private static void stuffers() {
        FeatherCourt x = Check.court(Check.men(5, 3, 0));
        Check.due("29: all ways: 2 * 5 + 2 * 3", x.stuffer(200, 0, NONE), 16);
        Check.due("29: 2 * 2 + 2 * 2", x.stuffer(2, 0, NONE), 8);
        int[] ways = {1001, 1002, 2001, 2002, 10001, 10002, 12001, 12002};
        for (int i = 0; i < ways.length; i++) {
            Check.due("29: way " + i, x.stuffer(2, 0, i), ways[i]);
        }
        Check.due("29: not so many", x.stuffer(2, 0, 8), NONE);
        x.stuff(0, 1, 1);
        x.tell(2, 3);
        x.tell(6, 3);
        x.tell(4, 1);
        // on b grew 1 elsewhere: so 2 more are on it, from a or c, and c has none
        Check.due("29: one test", x.stuffer(200, 1, NONE), 1);
        Check.due("29: a to b, 2", x.stuffer(200, 1, 0), 1002);
        Check.due("29: not so many", x.stuffer(1, 1, NONE), 0);
        Check.due("29: the second test tells no more", x.stuffer(200, 2, NONE), 1);
        Check.due("29: the third rules it out", x.stuffer(200, 3, NONE), 0);
        Check.due("29: none", x.stuffer(200, 3, 0), NONE);
        Check.due("29: without tests", x.stuffer(200, 0, NONE), 14);
        x.forget();
        x.tell(6, 3);
        // 2 more on b or on c: of a on b or c, of b on c
        Check.due("29: three", x.stuffer(200, 1, NONE), 3);
        Check.due("29: a to b", x.stuffer(200, 1, 0), 1002);
        Check.due("29: a to c", x.stuffer(200, 1, 1), 2002);
        Check.due("29: b to c", x.stuffer(200, 1, 2), 12002);
        x.forget();
        x.tell(2, 1);
        // nothing more on b: from b or a to the others
        Check.due("29: nothing more on b", x.stuffer(200, 1, NONE), 4 + 3 + 3);
        x.stuff(0, 2, 2);
        x.forget();
        x.tell(1, 0);
        // what grew elsewhere does not go on to others: a has 2 of his own left, c 2 that are not his own
        Check.due("29: own ones alone", x.stuffer(200, 1, NONE), 2 + 2 + 3);
    }

    private static void stufferEdges() {
        FeatherCourt x = Check.court(Check.men(999, 999, 999, 999, 999, 999, 999, 999));
        x.tell(1, 0);
        Check.due("29: all of eight", x.stuffer(200, 0, NONE), 56 * 200);
        Check.due("29: the last one", x.stuffer(200, 0, 11199), 76200);
        Check.due("29: beyond", x.stuffer(200, 0, 11200), NONE);
        Check.due("29: beyond", x.stuffer(200, 0, MAX), NONE);
        for (int most : new int[] {MIN, -1, 0, 201, MAX}) {
            Check.due("29: stuffer(" + most + ", 0, -1)", x.stuffer(most, 0, NONE), NONE);
        }
        for (int k : new int[] {MIN, -1, 2, 21, MAX}) {
            Check.due("29: stuffer(1, " + k + ", -1)", x.stuffer(1, k, NONE), NONE);
        }
        Check.due("29: stuffer(1, 0, -2)", x.stuffer(1, 0, -2), NONE);
        Check.due("29: stuffer(1, 0, min)", x.stuffer(1, 0, MIN), NONE);
        Check.due("29: nobody", new FeatherCourt().stuffer(1, 0, NONE), 0);
        Check.due("29: nobody", new FeatherCourt().stuffer(1, 0, 0), NONE);
    }

    private static void nothingHappens() {
        FeatherCourt x = Check.court(Check.men(20, 30, 9) + "deed d 3;fine d = have / 3;grow = 2;cold 15;");
        x.fine(0, 0);
        x.lend(1, 0, 5);
        x.tell(1, 5);
        int[] due = new int[12];
        for (int what = 0; what < due.length; what++) {
            due[what] = x.count(what);
        }
        x.payments();
        x.warmBy(2);
        x.warm(50);
        x.quilt(9, 0);
        x.quiltOf(9, 1);
        x.elected(0);
        x.bald(0);
        x.did(0, 5);
        x.surely(0, 5);
        x.stuffer(5, 1, NONE);
        for (int what = 0; what < due.length; what++) {
            Check.due("III: count(" + what + ")", x.count(what), due[what]);
        }
        Check.due("III: feathers", x.man(0, 0), 19);
        Check.due("III: feathers", x.man(2, 0), 9);
    }
}
