/** Promises 25 to 29, what one did and who was stuffed: a test of its own for each edge that the document names there. */
public final class TraceEdgesTest {
    private static final int NONE = FeatherCourt.NONE;
    private static final int MAX = Integer.MAX_VALUE;
    private static final int MIN = Integer.MIN_VALUE;

    public static void main(String[] args) {
        didIsRefused();
        didNothing();
        didEachUpToThrice();
        didWithoutDeeds();
        didForNothing();
        didAtFinesAsTheyAre();
        did9999();
        didOfEight();
        surelyWithoutRows();
        surelyInAllRows();
        tellsUpTo20();
        tellIsRefused();
        tellOfEight();
        forgets();
        stufferMost();
        stufferKnownBy();
        stufferWays();
        stufferNoMoreThanItsOwn();
        stufferOwnOnesAlone();
        stufferTogether();
        stufferNow();
        stufferOfNone();
        stufferOfEight();
        Check.close("TraceEdgesTest");
    }

    // ---- what one did ----

    private static void rows(FeatherCourt x, int man, int n, int rows, int surely) {
        Check.due("did(" + man + ", " + n + ")", x.did(man, n), rows);
        Check.due("surely(" + man + ", " + n + ")", x.surely(man, n), surely);
    }

    private static void didIsRefused() {
        FeatherCourt x = Check.court(Check.men(9, 9, 9) + Check.deeds(1, 0));
        Check.edge("25: NONE: no such MAN");
        for (int man : Check.far(-2, -1, 3, 4, 8)) {
            Check.due("did(" + man + ", 0)", x.did(man, 0), NONE);
        }
        Check.edge("26: NONE: no such MAN");
        for (int man : Check.far(-2, -1, 3, 4, 8)) {
            Check.due("surely(" + man + ", 0)", x.surely(man, 0), NONE);
        }
        Check.edge("25: NONE: no such n");
        for (int n : Check.far(-2, -1, 10000, 10001)) {
            Check.due("did(0, " + n + ")", x.did(0, n), NONE);
        }
        Check.edge("26: NONE: no such n");
        for (int n : Check.far(-2, -1, 10000, 10001)) {
            Check.due("surely(0, " + n + ")", x.surely(0, n), NONE);
        }
        Check.edge("25, 26: NONE without MEN");
        rows(new FeatherCourt(), 0, 0, NONE, NONE);
    }

    private static void didNothing() {
        Check.edge("IV: n of 0: no DEED was done");
        rows(Check.court(Check.men(9) + Check.deeds(1)), 0, 0, 1, 0);
        rows(Check.court(Check.men(0) + Check.deeds(3, 5, 999)), 0, 0, 1, 0);
    }

    private static void didEachUpToThrice() {
        Check.edge("IV: how often (0 .. 3) each DEED was done");
        FeatherCourt x = Check.court(Check.men(9) + Check.deeds(7));
        int[] due = {1, 1, 1, 1, 0, 0};
        for (int often = 0; often < due.length; often++) {
            rows(x, 0, 7 * often, due[often], often > 0 && often < 4 ? 1 : 0);
        }
        rows(x, 0, 6, 0, 0);
        rows(x, 0, 8, 0, 0);
        x = Check.court(Check.men(9) + Check.deeds(7, 2));
        rows(x, 0, 27, 1, 3);
        rows(x, 0, 28, 0, 0);
        rows(x, 0, 6, 1, 2);
        rows(x, 0, 8, 0, 0);
        Check.edge("IV: rows whose sum is n, however they come to it");
        x = Check.court(Check.men(9) + Check.deeds(1, 2, 3));
        rows(x, 0, 3, 3, 0);
        rows(x, 0, 6, 5, 0);
        rows(x, 0, 17, 1, 7);
        rows(x, 0, 18, 1, 7);
        rows(x, 0, 19, 0, 0);
    }

    private static void didWithoutDeeds() {
        Check.edge("IV: without DEEDS one row, of nothing");
        FeatherCourt x = Check.court(Check.men(9));
        rows(x, 0, 0, 1, 0);
        rows(x, 0, 1, 0, 0);
        rows(x, 0, 9999, 0, 0);
    }

    private static void didForNothing() {
        Check.edge("IV: a FINE of 0: done 0 to 3 times, and not surely");
        FeatherCourt x = Check.court(Check.men(9) + Check.deeds(0, 4));
        rows(x, 0, 0, 4, 0);
        rows(x, 0, 4, 4, 2);
        rows(x, 0, 12, 4, 2);
        rows(x, 0, 1, 0, 0);
        rows(Check.court(Check.men(9) + Check.deeds(0, 0, 0)), 0, 0, 64, 0);
    }

    private static void didAtFinesAsTheyAre() {
        Check.edge("IV: at its FINE as it is now");
        FeatherCourt x = Check.court("man a 50;man b 3;deed d 1;deed e 1;fine d=5+times;fine e=100+have+rank;");
        rows(x, 0, 5, 1, 1);
        x.fine(0, 0);
        rows(x, 0, 5, 0, 0);
        rows(x, 0, 6, 1, 1);
        rows(x, 0, 18, 1, 1);
        rows(x, 0, 145, 1, 2);
        Check.edge("IV: for that MAN");
        rows(x, 1, 5, 1, 1);
        rows(x, 1, 6, 0, 0);
        rows(x, 1, 104, 1, 2);
        Check.edge("IV: however few FEATHERS there are");
        rows(x, 1, 327, 1, 3);
    }

    private static void did9999() {
        Check.edge("IV: n of 9999");
        // of four DEEDS of 999 ten are done, two of twelve are not: ten rows
        FeatherCourt x = Check.court(Check.men(9) + Check.deeds(999, 999, 999, 999, 3));
        rows(x, 0, 9999, 10, 31);
        rows(x, 0, 9998, 0, 0);
        rows(x, 0, 9990, 10, 15);
        rows(Check.court(Check.men(9) + Check.deeds(999)), 0, 9999, 0, 0);
    }

    private static void didOfEight() {
        Check.edge("IV: rows of eight DEEDS");
        FeatherCourt x = Check.court(Check.men(9) + Check.deeds(0, 0, 0, 0, 0, 0, 0, 0));
        rows(x, 0, 0, 65536, 0);
        rows(x, 0, 1, 0, 0);
        x = Check.court(Check.men(9) + Check.deeds(1, 1, 1, 1, 1, 1, 1, 1));
        rows(x, 0, 1, 8, 0);
        rows(x, 0, 12, 8092, 0);
        rows(x, 0, 21, 120, 0);
        rows(x, 0, 22, 36, 255);
        rows(x, 0, 24, 1, 255);
        rows(x, 0, 25, 0, 0);
        Check.edge("IV: the last of eight DEEDS alone");
        x = Check.court(Check.men(9) + Check.deeds(2, 2, 2, 2, 2, 2, 2, 1));
        rows(x, 0, 1, 1, 128);
        rows(x, 0, 45, 1, 255);
    }

    private static void surelyWithoutRows() {
        Check.edge("26: 0 without rows");
        FeatherCourt x = Check.court(Check.men(9) + Check.deeds(2, 4, 6));
        rows(x, 0, 1, 0, 0);
        rows(x, 0, 37, 0, 0);
        rows(x, 0, 9999, 0, 0);
        Check.due("with a row", x.surely(0, 36), 7);
        Check.due("without, behind it", x.surely(0, 35), 0);
    }

    private static void surelyInAllRows() {
        Check.edge("26: DEEDS that were done in all of them");
        FeatherCourt x = Check.court(Check.men(9) + Check.deeds(2, 3, 20));
        rows(x, 0, 5, 1, 3);
        rows(x, 0, 6, 2, 0);
        rows(x, 0, 9, 2, 2);
        rows(x, 0, 26, 2, 4);
        rows(x, 0, 29, 2, 6);
        rows(x, 0, 75, 1, 7);
        rows(x, 0, 0, 1, 0);
    }

    // ---- tests that are told ----

    private static void tellsUpTo20() {
        FeatherCourt x = Check.court(Check.men(5, 5, 5));
        Check.edge("27: 20 tests, numbered from 0 on");
        for (int i = 0; i < 20; i++) {
            Check.due("tell", x.tell(1 + i % 7, i), i);
            Check.due("count(10)", x.count(10), i + 1);
        }
        Check.edge("27: NONE, and nothing happens: 20 are there");
        Check.refused(x, "tell(1, 1)", () -> x.tell(1, 1), NONE);
        Check.edge("29: KNOWN by all 20");
        Check.due("stuffer", x.stuffer(5, 20, NONE), 0);
        Check.due("stuffer", x.stuffer(5, 21, NONE), NONE);
        Check.edge("28: all 20 are forgotten");
        Check.due("forget", x.forget(), 20);
        Check.due("count(10)", x.count(10), 0);
        Check.due("tell", x.tell(1, 1), 0);
    }

    private static void tellIsRefused() {
        FeatherCourt x = Check.court(Check.men(5, 5, 5));
        x.tell(1, 0);
        Check.edge("27: NONE, and nothing happens: a set of no geese");
        Check.refused(x, "tell(0, 1)", () -> x.tell(0, 1), NONE);
        Check.edge("27: NONE, and nothing happens: a set of no such geese");
        for (int set : Check.far(-8, -7, -1, 8, 9, 15, 16, 256)) {
            Check.due("tell(" + set + ", 1)", x.tell(set, 1), NONE);
        }
        Check.edge("27: NONE, and nothing happens: many below 0, above 9999");
        for (int many : Check.far(-2, -1, 10000, 10001)) {
            Check.due("tell(1, " + many + ")", x.tell(1, many), NONE);
        }
        Check.due("count(10)", x.count(10), 1);
        Check.edge("27: many of 0 .. 9999");
        Check.due("tell(1, 0)", x.tell(1, 0), 1);
        Check.due("tell(7, 9999)", x.tell(7, 9999), 2);
        Check.edge("27: NONE without MEN");
        Check.due("tell(1, 0)", new FeatherCourt().tell(1, 0), NONE);
        Check.edge("27: the same told again is one more");
        Check.due("tell(1, 0)", x.tell(1, 0), 3);
    }

    private static void tellOfEight() {
        Check.edge("27: a set of eight geese");
        FeatherCourt x = Check.court(Check.men(1, 1, 1, 1, 1, 1, 1, 1));
        Check.due("tell(255, 1)", x.tell(255, 1), 0);
        Check.due("tell(128, 1)", x.tell(128, 1), 1);
        Check.edge("27: NONE: a ninth goose");
        Check.due("tell(256, 1)", x.tell(256, 1), NONE);
        Check.due("tell(511, 1)", x.tell(511, 1), NONE);
        Check.due("tell(MIN, 1)", x.tell(MIN | 1, 1), NONE);
        Check.edge("27: a set of one goose of one MAN");
        x = Check.court(Check.men(1));
        Check.due("tell(1, 1)", x.tell(1, 1), 0);
        Check.due("tell(2, 1)", x.tell(2, 1), NONE);
    }

    private static void forgets() {
        Check.edge("28: how many there were: none");
        Check.due("forget", new FeatherCourt().forget(), 0);
        FeatherCourt x = Check.court(Check.men(5, 5));
        Check.due("forget", x.forget(), 0);
        Check.edge("28: all that was TOLD is forgotten");
        x.tell(1, 4);
        x.tell(2, 4);
        Check.due("forget", x.forget(), 2);
        Check.due("forget", x.forget(), 0);
        Check.due("stuffer", x.stuffer(5, 1, NONE), NONE);
        Check.due("stuffer", x.stuffer(5, 0, NONE), 10);
        Check.edge("27: numbered from 0 on, when all is forgotten");
        Check.due("tell", x.tell(2, 1), 0);
        Check.due("it is the one that counts", x.stuffer(5, 1, 0), 1001);
    }

    // ---- who was stuffed ----

    private static void stufferMost() {
        FeatherCourt x = Check.court(Check.men(500, 0));
        Check.edge("29: how many: 1 .. most, most of 1");
        Check.due("ways", x.stuffer(1, 0, NONE), 1);
        Check.due("the way", x.stuffer(1, 0, 0), 1001);
        Check.edge("29: how many: 1 .. most, most of 200");
        Check.due("ways", x.stuffer(200, 0, NONE), 200);
        Check.due("the first", x.stuffer(200, 0, 0), 1001);
        Check.due("the last", x.stuffer(200, 0, 199), 1200);
        Check.due("no more", x.stuffer(200, 0, 200), NONE);
        Check.edge("29: NONE: no such most");
        for (int most : Check.far(-2, -1, 0, 201, 202)) {
            Check.due("stuffer(" + most + ", 0, -1)", x.stuffer(most, 0, NONE), NONE);
            Check.due("stuffer(" + most + ", 0, 0)", x.stuffer(most, 0, 0), NONE);
        }
    }

    private static void stufferKnownBy() {
        FeatherCourt x = Check.court(Check.men(9, 9));
        x.tell(2, 4);
        x.tell(1, 0);
        x.tell(1, 3);
        Check.edge("29: KNOWN by 0: by none");
        Check.due("ways", x.stuffer(9, 0, NONE), 18);
        Check.edge("29: KNOWN by k: the first k");
        Check.due("b has 4", x.stuffer(9, 1, NONE), 1);
        Check.due("the way", x.stuffer(9, 1, 0), 1004);
        Check.due("a has none", x.stuffer(9, 2, NONE), 1);
        Check.edge("29: KNOWN by all, which can't be so");
        Check.due("a has 3", x.stuffer(9, 3, NONE), 0);
        Check.due("no way", x.stuffer(9, 3, 0), NONE);
        Check.edge("29: NONE: not so many are TOLD");
        for (int k : Check.far(4, 5, 20, 21)) {
            Check.due("stuffer(9, " + k + ", -1)", x.stuffer(9, k, NONE), NONE);
            Check.due("stuffer(9, " + k + ", 0)", x.stuffer(9, k, 0), NONE);
        }
        Check.edge("29: NONE: KNOWN by less than 0");
        for (int k : new int[] {-1, -2, MIN}) {
            Check.due("stuffer(9, " + k + ", -1)", x.stuffer(9, k, NONE), NONE);
        }
    }

    private static void stufferWays() {
        FeatherCourt x = Check.court(Check.men(3, 0, 2));
        Check.edge("29: the i-th by geese from which, then to which, then how many");
        int[] ways = {1001, 1002, 1003, 2001, 2002, 2003, 20001, 20002, 21001, 21002};
        Check.due("ways", x.stuffer(9, 0, NONE), ways.length);
        for (int i = 0; i < ways.length; i++) {
            Check.due("way " + i, x.stuffer(9, 0, i), ways[i]);
        }
        Check.edge("29: NONE: not so many ways");
        for (int i : new int[] {10, 11, 1000, 1000000, MAX}) {
            Check.due("way " + i, x.stuffer(9, 0, i), NONE);
        }
        Check.edge("29: NONE: an i below NONE");
        for (int i : new int[] {-2, -3, -1000000, MIN}) {
            Check.due("way " + i, x.stuffer(9, 0, i), NONE);
        }
    }

    private static void stufferNoMoreThanItsOwn() {
        Check.edge("29: no more than are its own");
        FeatherCourt x = Check.court(Check.men(4, 6));
        Check.due("ways", x.stuffer(5, 0, NONE), 9);
        Check.due("all 4", x.stuffer(5, 0, 3), 1004);
        Check.due("then b", x.stuffer(5, 0, 4), 10001);
        Check.due("5 of 6", x.stuffer(5, 0, 8), 10005);
        Check.edge("29: of a goose that has none of its own");
        x.stuff(0, 1, 4);
        Check.due("ways", x.stuffer(9, 0, NONE), 6);
        Check.due("b alone", x.stuffer(9, 0, 0), 10001);
    }

    private static void stufferOwnOnesAlone() {
        Check.edge("29: own ones alone, however many others there are");
        FeatherCourt x = Check.court(Check.men(5, 8, 0));
        x.stuff(0, 1, 3);
        x.stuff(1, 0, 6);
        // a: 2 of its own, 6 of b; b: 2 of its own, 3 of a
        Check.due("a", x.man(0, 0), 8);
        Check.due("ways", x.stuffer(200, 0, NONE), 8);
        int[] ways = {1001, 1002, 2001, 2002, 10001, 10002, 12001, 12002};
        for (int i = 0; i < ways.length; i++) {
            Check.due("way " + i, x.stuffer(200, 0, i), ways[i]);
        }
        Check.edge("29: what grew elsewhere stays where it is");
        x.tell(1, 6);
        x.tell(2, 4);
        Check.due("one more on b, none of them of b", x.stuffer(200, 2, NONE), 1);
        Check.due("from a", x.stuffer(200, 2, 0), 1001);
    }

    private static void stufferTogether() {
        Check.edge("IV: on a set of geese together");
        FeatherCourt x = Check.court(Check.men(9, 9, 9));
        x.tell(6, 3);
        Check.due("ways", x.stuffer(9, 1, NONE), 4);
        int[] ways = {1003, 2003, 12003, 21003};
        for (int i = 0; i < ways.length; i++) {
            Check.due("way " + i, x.stuffer(9, 1, i), ways[i]);
        }
        Check.edge("IV: on all geese together");
        x.tell(7, 3);
        Check.due("alike", x.stuffer(9, 2, NONE), 4);
        x.forget();
        x.tell(7, 2);
        Check.due("any two", x.stuffer(9, 1, NONE), 6);
        Check.edge("IV: none grew elsewhere");
        x.forget();
        x.tell(4, 0);
        Check.due("not to c", x.stuffer(9, 1, NONE), 36);
        x.tell(7, 0);
        Check.due("nowhere", x.stuffer(9, 2, NONE), 0);
    }

    private static void stufferNow() {
        Check.edge("29: STUFFED now: more than what is there already");
        FeatherCourt x = Check.court("man a 9;man b 9;man c 9;deed d 1;fine d=2;");
        x.stuff(0, 1, 3);
        x.tell(2, 5);
        Check.due("two more on b", x.stuffer(9, 1, 0), 1002);
        Check.due("from c, too", x.stuffer(9, 1, 1), 21002);
        Check.due("ways", x.stuffer(9, 1, NONE), 2);
        Check.edge("29: just as many as there are already: none more to it");
        x.forget();
        x.tell(2, 3);
        Check.due("from a, b and c to others", x.stuffer(9, 1, NONE), 6 + 9 + 9 + 9);
        Check.edge("29: more are there already than it tells");
        x.forget();
        x.tell(2, 2);
        Check.due("ways", x.stuffer(9, 1, NONE), 0);
        Check.edge("29: as it is now, not as it was when it was TOLD");
        x.undo();
        Check.due("b has none now", x.stuffer(9, 1, 0), 1002);
        Check.edge("29: what is in the CHEST is on no goose");
        x.fine(0, 0);
        x.forget();
        x.tell(7, 0);
        x.tell(7, 1);
        Check.due("none is elsewhere on a goose", x.stuffer(1, 1, NONE), 0);
        x.forget();
        x.tell(7, 1);
        Check.due("one more", x.stuffer(9, 1, NONE), 6);
    }

    private static void stufferOfNone() {
        Check.edge("29: without MEN there is no way");
        Check.due("ways", new FeatherCourt().stuffer(1, 0, NONE), 0);
        Check.due("the first", new FeatherCourt().stuffer(200, 0, 0), NONE);
        Check.due("KNOWN by 1", new FeatherCourt().stuffer(1, 1, NONE), NONE);
        Check.edge("29: a goose from which and a goose to which are two");
        FeatherCourt x = Check.court(Check.men(9));
        Check.due("ways", x.stuffer(9, 0, NONE), 0);
        Check.due("the first", x.stuffer(9, 0, 0), NONE);
        Check.edge("29: no more than are its own is the one bound: on a full goose, too");
        x = Check.court("man a 5;man b 999;grow=999*rank;");
        x.weeks(10);
        Check.due("b has", x.man(1, 0), 9999);
        Check.due("ways", x.stuffer(200, 0, NONE), 5 + 200);
        Check.due("all of a on b", x.stuffer(200, 0, 4), 1005);
        Check.edge("29: of bare geese");
        Check.due("ways", Check.court(Check.men(0, 0)).stuffer(9, 0, NONE), 0);
    }

    private static void stufferOfEight() {
        Check.edge("29: from and to eight geese");
        FeatherCourt x = Check.court(Check.men(999, 999, 999, 999, 999, 999, 999, 999));
        Check.due("ways", x.stuffer(200, 0, NONE), 8 * 7 * 200);
        Check.due("the first", x.stuffer(200, 0, 0), 1001);
        Check.due("the last", x.stuffer(200, 0, 11199), 76200);
        Check.due("no more", x.stuffer(200, 0, 11200), NONE);
        x.tell(128, 7);
        Check.due("to the last", x.stuffer(200, 1, NONE), 7);
        Check.due("from the first", x.stuffer(200, 1, 0), 7007);
        Check.due("from the last but one", x.stuffer(200, 1, 6), 67007);
    }
}
