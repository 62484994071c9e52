/** Promises 18 to 24, what would be: a test of its own for each edge that the document names there. */
public final class PlanEdgesTest {
    private static final int NONE = FeatherCourt.NONE;

    public static void main(String[] args) {
        paymentsOfNone();
        fewestPayments();
        paymentsOfEight();
        warmByFirstTime();
        warmBy200();
        warmByIsRefused();
        warmAhead();
        warm200();
        warmIsRefused();
        quiltSizes();
        quiltWhats();
        quiltOfNoneFirst();
        quiltThatCannotBe();
        quiltOfNoMoreThanHeHas();
        quiltOfFinesAsTheyAre();
        quiltOfEachAtMostOnce();
        quiltOfNOrMore();
        quiltOfLeastBits();
        quiltOfNoGuilt();
        quiltOfEight();
        electedOfNone();
        electedOfAlike();
        electedByVotes();
        electedIsRefused();
        baldFrom0ToAll();
        baldByNone();
        baldTheFewest();
        baldNoMatterWhere();
        baldIsRefused();
        nothingHappens();
        Check.close("PlanEdgesTest");
    }

    // ---- payments ----

    /** Lends so that each NET is as told; they must come to 0 together. */
    private static FeatherCourt withNets(int... nets) {
        int[] feathers = new int[nets.length];
        java.util.Arrays.fill(feathers, 500);
        FeatherCourt x = Check.court(Check.men(feathers));
        int[] left = nets.clone();
        for (int a = 0; a < left.length; a++) {
            for (int b = 0; b < left.length; b++) {
                int n = Math.min(left[a], -left[b]);
                if (n > 0) {
                    Check.due("lend", x.lend(a, b, n), true);
                    left[a] -= n;
                    left[b] += n;
                }
            }
        }
        for (int man = 0; man < nets.length; man++) {
            Check.due("net", x.man(man, 3), nets[man]);
        }
        return x;
    }

    private static void paymentsOfNone() {
        Check.edge("18: PAYMENTS without MEN");
        Check.due("payments", new FeatherCourt().payments(), 0);
        Check.edge("18: PAYMENTS of one MAN");
        Check.due("payments", Check.court(Check.men(5)).payments(), 0);
        Check.edge("18: PAYMENTS without DEBTS");
        Check.due("payments", Check.court(Check.men(1, 2, 3, 4, 5, 6, 7, 8)).payments(), 0);
        Check.edge("18: PAYMENTS of DEBTS that all have NET 0");
        FeatherCourt x = Check.court(Check.men(9, 9, 9));
        x.lend(0, 1, 4);
        x.lend(1, 2, 4);
        Check.due("two of them", x.payments(), 1);
        x.lend(2, 0, 4);
        Check.due("round and round", x.payments(), 0);
        x.lend(0, 2, 1);
        x.lend(2, 0, 1);
        Check.due("both ways", x.payments(), 0);
        Check.edge("18: PAYMENTS of DEBTS paid back");
        x = Check.court(Check.men(9, 9));
        x.lend(0, 1, 4);
        Check.due("one", x.payments(), 1);
        x.repay(1, 0, 3);
        Check.due("of whatever size", x.payments(), 1);
        x.repay(1, 0, 1);
        Check.due("none", x.payments(), 0);
    }

    private static void fewestPayments() {
        Check.edge("II: the fewest payments");
        Check.due("one to two", withNets(3, -1, -2).payments(), 2);
        Check.due("two to one", withNets(3, 4, -7).payments(), 2);
        Check.due("two pairs", withNets(5, 4, -4, -5).payments(), 2);
        Check.due("no pair", withNets(5, 4, -6, -3).payments(), 3);
        Check.due("a pair that is not of the most", withNets(5, 4, -3, -2, -4).payments(), 3);
        Check.due("two groups of three", withNets(9, 6, -4, -5, -1, -5).payments(), 4);
        Check.due("three to two", withNets(1, 2, 3, -2, -4).payments(), 3);
        Check.due("no group", withNets(1, 2, 4, -3, -4).payments(), 3);
        Check.due("five in one", withNets(1, 1, 1, 1, -4).payments(), 4);
        Check.edge("II: those of NET 0 pay nothing");
        Check.due("the first", withNets(0, 2, -2).payments(), 1);
        Check.due("the last", withNets(2, -2, 0).payments(), 1);
        Check.due("many", withNets(0, 0, 7, 0, 0, -7, 0, 0).payments(), 1);
    }

    private static void paymentsOfEight() {
        Check.edge("II: the fewest payments of eight");
        Check.due("four pairs", withNets(1, 2, 3, 5, -2, -5, -1, -3).payments(), 4);
        Check.due("one group", withNets(7, 7, 7, 7, -1, -2, -3, -22).payments(), 7);
        Check.due("two groups of three, a pair", withNets(9, 6, 3, -4, -5, -1, -5, -3).payments(), 5);
        Check.due("a group of five, one of three", withNets(100, 40, 40, 40, -39, -61, -60, -60).payments(), 6);
        Check.due("two groups of four", withNets(11, 13, 101, 103, -12, -12, -102, -102).payments(), 6);
        Check.due("all to one", withNets(1, 2, 4, 8, 16, 32, 64, -127).payments(), 7);
    }

    // ---- warm ----

    private static void warmByFirstTime() {
        Check.edge("19: behind 0 WEEKS");
        Check.due("warm now", Check.court("man a 5;cold 4 99;").warmBy(0), 0);
        Check.edge("19: for the first time");
        FeatherCourt x = Check.court("man a 5;cold 9 9 4 9 3 9 2 9;");
        Check.due("week 2, 4, 6", x.warmBy(0), 2);
        x.weeks(3);
        Check.due("week 4 from week 3", x.warmBy(0), 1);
        x.weeks(4);
        Check.due("week 10 from week 7, round and round", x.warmBy(0), 3);
        Check.edge("19: more than 0");
        Check.due("0 is not", Check.court("man a 5;cold 5 6 5 4;").warmBy(0), 3);
        Check.edge("19: by what grows");
        Check.due("2 each week", Check.court("man a 5;cold 12;grow=2;").warmBy(0), 4);
        Check.due("up to 9999", Check.court("man a 999;grow=999;warm=have-9998;").warmBy(0), 10);
        Check.due("no more than 9999", Check.court("man a 999;grow=999;warm=have-9999;").warmBy(0), -2);
        Check.edge("19: by a MOULT");
        x = Check.court("man a 5;man b 5;deed d 1;fine d=0;warm=1-times;moult 7;");
        x.weeks(3);
        x.fine(0, 0);
        Check.due("a, in week 7", x.warmBy(0), 4);
        Check.due("b", x.warmBy(1), 0);
        Check.edge("19: times are 0 behind a MOULT, no more and no less");
        x = Check.court("man a 5;deed d 1;fine d=0;warm=if times<0 then 0 else if 0<times then 0 else 1;moult 3;");
        x.fine(0, 0);
        Check.due("warmBy", x.warmBy(0), 3);
        x = Check.court("man a 5;deed d 1;fine d=0;grow=if times<0 then 7 else times;warm=have-8;moult 3;");
        x.fine(0, 0);
        Check.due("three in all, then none", x.warmBy(0), -2);
        x.fine(0, 0);
        Check.due("two a week", x.warmBy(0), 2);
    }

    private static void warmBy200() {
        Check.edge("19: behind 200 WEEKS");
        FeatherCourt x = Check.court("man a 0;grow=1;warm=have-199;");
        Check.due("200", x.warmBy(0), 200);
        Check.edge("19: -2: not behind 201 WEEKS");
        x = Check.court("man a 0;grow=1;warm=have-200;");
        Check.due("201", x.warmBy(0), -2);
        x.weeks(1);
        Check.due("200", x.warmBy(0), 200);
        Check.edge("19: -2: never");
        Check.due("bare", Check.court("man a 0;").warmBy(0), -2);
        Check.due("0", Check.court("man a 5;warm=0;").warmBy(0), -2);
        Check.due("divided by 0", Check.court("man a 5;warm=5/0;").warmBy(0), -2);
        Check.edge("19: from the week it is");
        x = Check.court("man a 5;warm=if week<350 then 0 else 1;");
        x.weeks(100);
        Check.due("250", x.warmBy(0), -2);
        x.weeks(50);
        Check.due("200", x.warmBy(0), 200);
        x.weeks(100);
        Check.due("100", x.warmBy(0), 100);
    }

    private static void warmByIsRefused() {
        Check.edge("19: NONE: no such MAN");
        FeatherCourt x = Check.court(Check.men(5, 6, 7));
        for (int man : Check.far(-2, -1, 3, 4, 8)) {
            Check.due("warmBy(" + man + ")", x.warmBy(man), NONE);
        }
    }

    private static void warmAhead() {
        Check.edge("20: WARM behind 0 WEEKS is as it is now");
        FeatherCourt x = Check.court("man a 5;man b 6;man c 4;cold 5 4;");
        Check.due("warm(0)", x.warm(0), 2);
        Check.edge("20: WARM behind n WEEKS, as when they have gone by");
        String laws = "man a 30;man b 12;man c 0;deed d 1;fine d=3;grow=times+week/9+rank;warm=have-wind-chest;cold 20 30 41 15 60;moult 4;";
        for (int n : new int[] {0, 1, 2, 3, 4, 5, 7, 8, 9, 33, 100}) {
            x = Check.court(laws);
            x.fine(0, 0);
            x.fine(1, 0);
            x.fine(1, 0);
            x.weeks(1);
            int told = x.warm(n);
            x.weeks(n);
            for (int man = 0; man < 3; man++) {
                Check.due("goose " + man + " behind " + n, told >> man & 1, x.man(man, 4));
            }
        }
        Check.edge("20: bits of eight geese");
        x = Check.court(Check.men(9, 1, 1, 9, 1, 9, 1, 9) + "cold 5;");
        Check.due("warm(0)", x.warm(0), 1 + 8 + 32 + 128);
        Check.due("warm(7)", x.warm(7), 1 + 8 + 32 + 128);
        Check.edge("20: none, all");
        Check.due("none", Check.court(Check.men(1, 2) + "cold 5;").warm(3), 0);
        Check.due("all", Check.court(Check.men(6, 7) + "cold 5;").warm(3), 3);
        Check.due("without MEN", new FeatherCourt().warm(0), 0);
    }

    private static void warm200() {
        Check.edge("20: WARM behind 200 WEEKS");
        FeatherCourt x = Check.court("man a 0;man b 1;grow=1;warm=have-200;");
        Check.due("warm(200)", x.warm(200), 2);
        Check.due("warm(199)", x.warm(199), 0);
        x = Check.court("man a 5;warm=if week<300 then 0 else 1;");
        x.weeks(100);
        Check.due("warm(199)", x.warm(199), 0);
        Check.due("warm(200)", x.warm(200), 1);
    }

    private static void warmIsRefused() {
        Check.edge("20: NONE: no such n");
        FeatherCourt x = Check.court(Check.men(5, 6));
        for (int n : Check.far(-200, -2, -1, 201, 202)) {
            Check.due("warm(" + n + ")", x.warm(n), NONE);
            Check.due("warm(" + n + ")", new FeatherCourt().warm(n), NONE);
        }
    }

    // ---- quilts ----

    private static void quilt(FeatherCourt x, int n, int guilt, int come, int... sets) {
        Check.due("guilt for " + n, x.quilt(n, 0), guilt);
        Check.due("come for " + n, x.quilt(n, 1), come);
        for (int man = 0; man < sets.length; man++) {
            Check.due("DEEDS of " + man + " for " + n, x.quiltOf(n, man), sets[man]);
        }
    }

    private static void quiltSizes() {
        FeatherCourt x = Check.court("man a 999;man b 400;deed d 7;fine d=400;deed e 4;fine e=1;");
        Check.edge("III: a QUILT of 1 FEATHER");
        quilt(x, 1, 4, 1, 0, 2);
        Check.edge("III: a QUILT of 400 FEATHERS");
        quilt(x, 400, 7, 400, 0, 1);
        Check.edge("21: NONE: no such n");
        for (int n : Check.far(-400, -1, 0, 401, 402)) {
            Check.due("quilt(" + n + ", 0)", x.quilt(n, 0), NONE);
            Check.due("quilt(" + n + ", 1)", x.quilt(n, 1), NONE);
        }
        Check.edge("22: NONE: no such n");
        for (int n : Check.far(-400, -1, 0, 401, 402)) {
            Check.due("quiltOf(" + n + ", 0)", x.quiltOf(n, 0), NONE);
            Check.due("quiltOf(" + n + ", 1)", x.quiltOf(n, 1), NONE);
        }
        Check.edge("21: NONE: no such n, where it can't be either");
        Check.due("quilt(0, 0)", new FeatherCourt().quilt(0, 0), NONE);
        Check.due("quilt(401, 0)", Check.court(Check.men(0)).quilt(401, 0), NONE);
    }

    private static void quiltWhats() {
        Check.edge("21: NONE: no such what");
        FeatherCourt x = Check.court("man a 9;deed d 7;fine d=4;");
        for (int what : Check.far(-2, -1, 2, 3)) {
            Check.due("quilt(1, " + what + ")", x.quilt(1, what), NONE);
        }
        Check.edge("21: 0 the sum of GUILT, 1 how many FEATHERS come");
        Check.due("guilt", x.quilt(1, 0), 7);
        Check.due("come", x.quilt(1, 1), 4);
    }

    private static void quiltOfNoneFirst() {
        FeatherCourt x = Check.court("man a 9;man b 3;deed d 7;fine d=4;");
        Check.edge("22: NONE: no such MAN");
        for (int man : Check.far(-2, -1, 2, 3, 8)) {
            Check.due("quiltOf(7, " + man + ")", x.quiltOf(7, man), NONE);
        }
        Check.edge("22: NONE is looked at first, where it can't be");
        for (int man : Check.far(-2, -1, 2, 3, 8)) {
            Check.due("quiltOf(8, " + man + ")", x.quiltOf(8, man), NONE);
        }
        Check.due("no MEN", new FeatherCourt().quiltOf(1, 0), NONE);
        Check.due("no n", x.quiltOf(401, 0), NONE);
        Check.edge("22: -2 likewise");
        Check.due("a", x.quiltOf(8, 0), -2);
        Check.due("b", x.quiltOf(8, 1), -2);
    }

    private static void quiltThatCannotBe() {
        Check.edge("21: -2: it can't be: no MEN");
        Check.due("quilt", new FeatherCourt().quilt(1, 0), -2);
        Check.due("quilt", Check.court("deed d 1;").quilt(1, 1), -2);
        Check.edge("21: -2: it can't be: no DEEDS");
        Check.due("quilt", Check.court("man a 9;").quilt(1, 0), -2);
        Check.due("quiltOf", Check.court("man a 9;").quiltOf(1, 0), -2);
        Check.edge("21: -2: it can't be: bare geese");
        Check.due("quilt", Check.court("man a 0;man b 0;deed d 1;").quilt(1, 0), -2);
        Check.edge("21: -2: it can't be: FINES of 0");
        Check.due("quilt", Check.court("man a 9;deed d 1;fine d=0;").quilt(1, 0), -2);
        Check.edge("21: as many as all FINES bring, not one more");
        FeatherCourt x = Check.court("man a 9;man b 9;deed d 2;deed e 3;fine d=1;fine e=5;");
        quilt(x, 12, 10, 12, 3, 3);
        Check.due("13", x.quilt(13, 0), -2);
        Check.due("13", x.quilt(13, 1), -2);
        Check.due("13", x.quiltOf(13, 0), -2);
    }

    private static void quiltOfNoMoreThanHeHas() {
        Check.edge("III: of no MAN more FEATHERS than he has");
        FeatherCourt x = Check.court("man a 7;man b 20;deed d 2;deed e 3;fine d=5;fine e=6;");
        quilt(x, 6, 3, 6, 0, 2);
        quilt(x, 7, 4, 10, 1, 1);
        quilt(x, 11, 5, 11, 0, 3);
        quilt(x, 12, 6, 12, 2, 2);
        quilt(x, 13, 7, 16, 1, 3);
        quilt(x, 17, 8, 17, 2, 3);
        quilt(x, 18, 10, 18, 3, 3);
        Check.due("7 and 11 are all", x.quilt(19, 0), -2);
        Check.edge("III: of no MAN more FEATHERS than he has, whose ever");
        x = Check.court("man a 2;man b 9;deed d 2;deed e 3;fine d=5;fine e=5;");
        x.stuff(1, 0, 6);
        quilt(x, 8, 4, 8, 1, 1);
        quilt(x, 9, 7, 11, 3, 1);
        Check.due("12", x.quilt(12, 0), -2);
        Check.edge("III: of a MAN who has fewer than one FINE");
        x = Check.court("man a 3;deed d 2;");
        quilt(x, 3, 2, 3, 1);
        Check.due("4", x.quilt(4, 0), -2);
    }

    private static void quiltOfFinesAsTheyAre() {
        Check.edge("III: FINES as they are now, not as they would be behind others");
        FeatherCourt x = Check.court("man a 50;man b 50;deed d 1;deed e 1;fine d=have/10;fine e=times*8+chest+rank;");
        quilt(x, 11, 3, 11, 1, 3);
        x.fine(0, 1);
        x.fine(0, 1);
        // a: 42, fines 4 and 16 + 8; b: 5 and 9
        quilt(x, 10, 1, 24, 2, 0);
        quilt(x, 42, 4, 42, 3, 3);
        Check.due("43", x.quilt(43, 0), -2);
        Check.edge("III: nothing happens");
        Check.due("times", x.man(0, 2), 2);
        Check.due("CHEST", x.count(3), 8);
    }

    private static void quiltOfEachAtMostOnce() {
        Check.edge("III: each MAN for each DEED at most once");
        FeatherCourt x = Check.court("man a 50;man b 50;deed d 1;deed e 9;fine d=6;fine e=6;");
        quilt(x, 6, 1, 6, 0, 1);
        quilt(x, 7, 2, 12, 1, 1);
        quilt(x, 13, 11, 18, 1, 3);
        quilt(x, 24, 20, 24, 3, 3);
        Check.due("25", x.quilt(25, 0), -2);
    }

    private static void quiltOfNOrMore() {
        Check.edge("III: so that n or more come");
        FeatherCourt x = Check.court("man a 50;deed d 5;deed e 6;fine d=3;fine e=30;");
        quilt(x, 2, 5, 3, 1);
        quilt(x, 3, 5, 3, 1);
        quilt(x, 4, 6, 30, 2);
        quilt(x, 30, 6, 30, 2);
        quilt(x, 31, 11, 33, 3);
        Check.edge("III: the least sum of GUILT, however many come");
        x = Check.court("man a 400;man b 400;deed d 2;deed e 1;fine d=10;fine e=200;");
        quilt(x, 10, 1, 200, 0, 2);
        quilt(x, 201, 2, 400, 2, 2);
    }

    private static void quiltOfLeastBits() {
        Check.edge("III: of alike ones for MAN 0 the least bits of DEEDS");
        FeatherCourt x = Check.court("man a 50;deed d 2;deed e 2;deed f 4;fine d=3;fine e=3;fine f=6;");
        quilt(x, 3, 2, 3, 1);
        quilt(x, 4, 4, 6, 3);
        quilt(x, 7, 6, 9, 5);
        Check.edge("III: then for MAN 1, and so on");
        x = Check.court("man a 50;man b 50;man c 50;deed d 1;deed e 1;fine d=5;fine e=5;");
        quilt(x, 5, 1, 5, 0, 0, 1);
        quilt(x, 6, 2, 10, 0, 0, 3);
        quilt(x, 11, 3, 15, 0, 1, 3);
        quilt(x, 16, 4, 20, 0, 3, 3);
        quilt(x, 21, 5, 25, 1, 3, 3);
        quilt(x, 30, 6, 30, 3, 3, 3);
        Check.edge("III: least bits go ahead of more FEATHERS");
        x = Check.court("man a 50;man b 50;deed d 1;deed e 1;fine d=5;fine e=5+9*(1-rank);");
        quilt(x, 5, 1, 5, 0, 1);
        quilt(x, 6, 1, 14, 2, 0);
        quilt(x, 15, 2, 19, 2, 1);
        x = Check.court("man a 50;deed d 1;deed e 1;fine d=5;fine e=9;");
        quilt(x, 4, 1, 5, 1);
    }

    private static void quiltOfNoGuilt() {
        Check.edge("III: a GUILT of 0: the least bits of DEEDS, no more than need be");
        FeatherCourt x = Check.court("man a 5;man b 5;deed d 0;deed e 0;fine d=2;fine e=9;");
        quilt(x, 1, 0, 2, 0, 1);
        quilt(x, 3, 0, 5, 0, 2);
        quilt(x, 6, 0, 7, 1, 2);
        quilt(x, 10, 0, 10, 2, 2);
        Check.due("11", x.quilt(11, 0), -2);
        Check.edge("III: a FINE of 0 is of no use");
        x = Check.court("man a 5;deed d 0;deed e 1;fine d=0;fine e=5;");
        quilt(x, 5, 1, 5, 2);
    }

    private static void quiltOfEight() {
        Check.edge("III: eight MEN for eight DEEDS");
        StringBuilder text = new StringBuilder(Check.men(90, 90, 90, 90, 90, 90, 90, 90));
        for (int i = 0; i < 8; i++) {
            text.append("deed d").append((char) ('a' + i)).append(" 99;fine d").append((char) ('a' + i)).append("=6;");
        }
        FeatherCourt x = Check.court(text.toString());
        quilt(x, 384, 64 * 99, 384, 255, 255, 255, 255, 255, 255, 255, 255);
        quilt(x, 379, 64 * 99, 384, 255, 255, 255, 255, 255, 255, 255, 255);
        quilt(x, 378, 63 * 99, 378, 127, 255, 255, 255, 255, 255, 255, 255);
        quilt(x, 7, 2 * 99, 12, 0, 0, 0, 0, 0, 0, 0, 3);
        Check.due("385", x.quilt(385, 0), -2);
        Check.edge("III: the last DEED of eight alone");
        x = Check.court(Check.men(5, 90) + Check.deeds(0, 0, 0, 0, 0, 0, 0, 40));
        quilt(x, 40, 1, 40, 0, 128);
    }

    // ---- elected ----

    private static void electedOfNone() {
        Check.edge("23: -2: no MEN");
        Check.due("elected(0)", new FeatherCourt().elected(0), -2);
        Check.due("elected(1)", Check.court("deed d 5;").elected(1), -2);
        Check.edge("23: one MAN, by his own vote");
        FeatherCourt x = Check.court("man a 0;vote a=0-1;");
        Check.due("elected(0)", x.elected(0), 0);
        Check.due("elected(1)", x.elected(1), 1);
    }

    /** A VOTE for this one alone, whatever he has. */
    private static String votes(String voter, int man) {
        return "vote " + voter + "=0-(rank-" + man + ")*(rank-" + man + ");";
    }

    private static void electedOfAlike() {
        Check.edge("III: of alike ones each votes for the first");
        FeatherCourt x = Check.court("man a 5;man b 9;man c 9;vote c=7;");
        Check.due("a: b and c are alike", x.man(0, 5), 1);
        Check.due("c: all are alike", x.man(2, 5), 0);
        Check.edge("III: of alike ones the one with the fewest FEATHERS");
        x = Check.court("man a 9;man b 5;man c 7;" + votes("a", 0) + votes("b", 1) + votes("c", 2));
        Check.due("elected(0)", x.elected(0), 1);
        Check.due("elected(1)", x.elected(1), 1);
        x = Check.court("man a 9;man b 7;man c 5;man d 0;" + votes("a", 1) + votes("b", 2) + votes("c", 1) + votes("d", 2));
        Check.due("elected(0)", x.elected(0), 2);
        Check.due("elected(1)", x.elected(1), 2);
        Check.edge("III: the fewest FEATHERS of his goose, whose ever");
        x = Check.court("man a 9;man b 5;man c 20;" + votes("a", 0) + votes("b", 1) + votes("c", 2));
        x.stuff(2, 1, 6);
        Check.due("a has 9, b 11, 5 of them his own", x.elected(0), 0);
        Check.edge("III: then the first");
        x = Check.court("man a 9;man b 5;man c 5;" + votes("a", 0) + votes("b", 2) + votes("c", 1));
        Check.due("elected(0)", x.elected(0), 1);
        x = Check.court("man a 5;man b 5;man c 5;" + votes("a", 2) + votes("b", 1) + votes("c", 0));
        Check.due("elected(0)", x.elected(0), 0);
    }

    private static void electedByVotes() {
        Check.edge("III: elected is who has most votes, however many FEATHERS he has");
        FeatherCourt x = Check.court("man a 0;man b 500;man c 1;" + votes("a", 1) + votes("b", 2) + votes("c", 1));
        Check.due("elected(0)", x.elected(0), 1);
        Check.due("elected(1)", x.elected(1), 2);
        Check.edge("III: himself, too");
        x = Check.court("man a 3;man b 2;man c 1;" + votes("a", 2) + votes("b", 2) + votes("c", 2));
        Check.due("elected(0)", x.elected(0), 2);
        Check.due("elected(1)", x.elected(1), 3);
        Check.edge("III: eight votes for the last of eight");
        x = Check.court(Check.men(1, 2, 3, 4, 5, 6, 7, 8));
        Check.due("elected(0)", x.elected(0), 7);
        Check.due("elected(1)", x.elected(1), 8);
        Check.edge("III: as it is now");
        x = Check.court("man a 9;man b 8;deed d 1;fine d=2;");
        Check.due("elected(0)", x.elected(0), 0);
        x.fine(0, 0);
        Check.due("behind a FINE", x.elected(0), 1);
        x.undo();
        Check.due("undone", x.elected(0), 0);
    }

    private static void electedIsRefused() {
        Check.edge("23: NONE for others");
        FeatherCourt x = Check.court(Check.men(5, 6));
        for (int what : Check.far(-2, -1, 2, 3)) {
            Check.due("elected(" + what + ")", x.elected(what), NONE);
        }
    }

    // ---- bald ----

    private static void baldFrom0ToAll() {
        Check.edge("24: 0: he is elected");
        FeatherCourt x = Check.court("man a 9;man b 5;");
        Check.due("bald(0)", x.bald(0), 0);
        Check.edge("24: all of them");
        String least = "vote a=0-have;vote b=0-have;";
        x = Check.court("man a 0;man b 5;vote a=if have<1 then rank+1 else 0;vote b=if have<1 then rank+1 else 0;");
        Check.due("bald(1)", x.bald(1), 5);
        Check.edge("24: one less than all");
        x = Check.court("man a 2;man b 5;" + least);
        Check.due("bald(1)", x.bald(1), 4);
        Check.edge("24: of a bare goose, 0 alone");
        x = Check.court("man a 0;man b 5;" + least);
        Check.due("bald(0)", x.bald(0), 0);
        x = Check.court("man a 0;man b 5;");
        Check.due("bald(0)", x.bald(0), -2);
        Check.edge("24: of all FEATHERS of his goose, whose ever");
        x = Check.court("man a 2;man b 5;man c 5;" + least + "vote c=0-have;");
        x.stuff(2, 1, 4);
        x.stuff(0, 2, 1);
        Check.due("a", x.bald(0), 0);
        Check.due("b of 9 down to 0", x.bald(1), 9);
        Check.due("c of 2 down to 0", x.bald(2), 2);
    }

    private static void baldByNone() {
        Check.edge("24: -2: by none");
        FeatherCourt x = Check.court("man a 9;man b 5;");
        Check.due("bald(1)", x.bald(1), -2);
        x = Check.court("man a 0;man b 5;vote a=0-have;vote b=0-have;");
        Check.due("at 0 the first of alike ones", x.bald(1), -2);
        x = Check.court("man a 9;man b 9;" + votes("a", 0) + votes("b", 0));
        Check.due("nobody votes for him", x.bald(1), -2);
    }

    private static void baldTheFewest() {
        Check.edge("24: the fewest FEATHERS, where some more would not do");
        FeatherCourt x = Check.court("man a 9;man b 30;vote a=if have/10-2<0 then 0-have else if 2<have/10 then 0-have else 5;"
            + "vote b=if have/10-2<0 then 0-have else if 2<have/10 then 0-have else 5;");
        Check.due("20 .. 29", x.bald(1), 1);
        Check.edge("24: so that of alike ones he has the fewest FEATHERS");
        x = Check.court("man a 7;man b 30;" + votes("a", 0) + votes("b", 1));
        Check.due("bald(1)", x.bald(1), 24);
        x = Check.court("man a 30;man b 7;" + votes("a", 0) + votes("b", 1));
        Check.due("as many as the other one, as the first", x.bald(0), 23);
    }

    private static void baldNoMatterWhere() {
        Check.edge("24: no matter where they go: the CHEST and the others stay as they are");
        FeatherCourt x = Check.court("man a 5;man b 5;vote a=if chest<1 then 1-rank else rank;vote b=if chest<1 then 1-rank else rank;");
        Check.due("bald(1)", x.bald(1), -2);
        x = Check.court("man a 5;man b 9;vote a=(9-have)*(rank+1);vote b=0;");
        Check.due("a has 5, b 9: a votes for a; b for a", x.bald(0), 0);
        x = Check.court("man a 5;man b 9;vote a=0-have;vote b=0-have;");
        Check.due("b needs 4 while a has 5", x.bald(1), 5);
        Check.edge("24: times are as they are now");
        x = Check.court("man a 5;man b 5;deed d 1;fine d=0;vote a=times;vote b=times;");
        Check.due("bald(1)", x.bald(1), -2);
        x.fine(1, 0);
        Check.due("bald(1)", x.bald(1), 0);
    }

    private static void baldIsRefused() {
        Check.edge("24: NONE: no such MAN");
        FeatherCourt x = Check.court(Check.men(5, 6, 7));
        for (int man : Check.far(-2, -1, 3, 4, 8)) {
            Check.due("bald(" + man + ")", x.bald(man), NONE);
        }
    }

    // ---- all of them ----

    private static void nothingHappens() {
        String[] says = {"payments", "warmBy", "warm", "quilt", "quiltOf", "elected", "bald", "did", "surely", "stuffer", "man"};
        for (int what = 0; what < says.length; what++) {
            Check.edge("III: what would be (nothing happens): " + says[what]);
            FeatherCourt x = Check.court("man a 60;man b 40;man c 9;deed d 3;deed e 5;fine d=4+times;grow=1+times;vote a=0-have;moult 3;");
            x.fine(0, 0);
            x.lend(1, 0, 5);
            x.tell(3, 1);
            String before = Check.all(x);
            ask(x, what);
            Check.due("all", Check.all(x), before);
        }
    }

    private static void ask(FeatherCourt x, int what) {
        switch (what) {
            case 0: Check.due("payments", x.payments(), 1); break;
            case 1: Check.due("warmBy", x.warmBy(2), 0); break;
            case 2: Check.due("warm", x.warm(200), 7); break;
            case 3: Check.due("quilt", x.quilt(400, 0), -2); break;
            case 4: Check.due("quiltOf", x.quiltOf(14, 1), 2); break;
            case 5: Check.due("elected", x.elected(0), 0); break;
            case 6: Check.due("bald", x.bald(1), -2); break;
            case 7: Check.due("did", x.did(0, 10), 2); break;
            case 8: Check.due("surely", x.surely(0, 10), 0); break;
            case 9: Check.due("stuffer", x.stuffer(9, 0, NONE), 54); break;
            default: Check.due("man", x.man(1, 5), 0);
        }
    }
}
