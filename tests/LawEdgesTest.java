/** LAWS, what they see and what they tell: a test of its own for each edge that the document names. */
public final class LawEdgesTest {
    private static final String LEAST = "(2048*1024*1024)";
    private static final String MOST = "(2048*1024*1024-1)";

    public static void main(String[] args) {
        firstThatHolds();
        oneLessThanTheOther();
        signs();
        wraps();
        roundedTowards0();
        dividedBy0();
        dividedBy0InEachLaw();
        dividedBy0NotLookedAt();
        fineSees();
        growSees();
        warmSees();
        voteSees();
        chestOfAll();
        windGoesRound();
        fineIsHeld();
        growIsHeld();
        warmIsNotHeld();
        voteIsNotHeld();
        lastOneTold();
        eachOfItsOwn();
        Check.close("LawEdgesTest");
    }

    /** What the FINE of man b, who has 20, tells for a deed by this law. */
    private static void tells(String law, int due) {
        Check.due(law, Check.court("man a 5;man b 20;deed c 1;fine c=" + law + ";").tariff(1, 0), due);
    }

    private static void firstThatHolds() {
        Check.edge("II: the E of the first if that holds");
        tells("if 1<2 then 5 else if 1<2 then 6 else 7", 5);
        tells("if 2<1 then 5 else if 1<2 then 6 else 7", 6);
        tells("if 2<1 then 5 else if 2<1 then 6 else if 1<2 then 7 else if 1<2 then 8 else 9", 7);
        tells("if 2<1 then 5 else if 2<1 then 6 else if 2<1 then 7 else if 1<2 then 8 else 9", 8);
        tells("if have<21 then have*2 else rank", 40);
        Check.edge("II: else the last one");
        tells("if 2<1 then 5 else 6", 6);
        tells("if 2<1 then 5 else if 2<1 then 6 else if 2<1 then 7 else if 2<1 then 8 else 9", 9);
        tells("9", 9);
    }

    private static void oneLessThanTheOther() {
        Check.edge("II: an if holds if one is less than the other");
        tells("if have<19 then 1 else 2", 2);
        tells("if have<20 then 1 else 2", 2);
        tells("if have<21 then 1 else 2", 1);
        tells("if 0-1<0 then 1 else 2", 1);
        tells("if 0<0-1 then 1 else 2", 2);
        Check.edge("II: less among ints of 32 bits");
        tells("if " + LEAST + "<" + MOST + " then 1 else 2", 1);
        tells("if " + MOST + "<" + LEAST + " then 1 else 2", 2);
        tells("if " + LEAST + "<1 then 1 else 2", 1);
        tells("if " + MOST + "<0-1 then 1 else 2", 2);
        tells("if " + LEAST + "<" + LEAST + " then 1 else 2", 2);
    }

    private static void signs() {
        Check.edge("I: * and / go ahead of + and -");
        tells("2+3*4", 14);
        tells("2*3+4", 10);
        tells("20-6/2", 17);
        tells("20/2-6", 4);
        tells("2*3+4*5-6/3", 24);
        Check.edge("I: of alike ones from the first to the last");
        tells("20-5-3", 12);
        tells("20-5+3", 18);
        tells("100/10/5", 2);
        tells("100/10*5", 50);
        tells("7*3/2", 10);
        tells("7/2*3", 9);
        Check.edge("I: ( ) go ahead of all");
        tells("20-(5-3)", 18);
        tells("100/(10/5)", 50);
        tells("(2+3)*(4+5)", 45);
        tells("2*((3+4)*(5-(6-7)))", 84);
        tells("7/(2*3)", 1);
        tells("(((have)))", 20);
    }

    private static void wraps() {
        Check.edge("II: ints of 32 bits that wrap: +");
        tells("if " + MOST + "+1<0 then 1 else 2", 1);
        tells(MOST + "+1-" + LEAST, 0);
        tells(MOST + "+" + MOST + "+3", 1);
        Check.edge("II: ints of 32 bits that wrap: -");
        tells("if 0<" + LEAST + "-1 then 1 else 2", 1);
        tells(LEAST + "-1-" + MOST, 0);
        tells("if 0-" + LEAST + "<0 then 1 else 2", 1);
        Check.edge("II: ints of 32 bits that wrap: *");
        tells("if (4634*10+1)*(4634*10+1)<0 then 1 else 2", 1);
        tells("4096*1024*1024+7", 7);
        tells("4096*1024*(1024+0)*9999+8", 8);
        tells("if 0<9999*9999*22 then 1 else 2", 2);
        tells("if 0<9999*9999*21 then 1 else 2", 1);
        Check.edge("II: ints of 32 bits that wrap: the least one / -1");
        tells("if " + LEAST + "/(0-1)<0 then 1 else 2", 1);
        tells(LEAST + "/(0-1)-" + LEAST + "+5", 5);
    }

    private static void roundedTowards0() {
        Check.edge("II: / rounded towards 0");
        tells("7/2", 3);
        tells("(0-7)/2+10", 7);
        tells("7/(0-2)+10", 7);
        tells("(0-7)/(0-2)", 3);
        tells("1/2+10", 10);
        tells("(0-1)/2+10", 10);
        tells("1/(0-2)+10", 10);
        tells("0/7+10", 10);
        tells("(0-8)/4+10", 8);
    }

    private static void dividedBy0() {
        Check.edge("II: a LAW in which something that is looked at is divided by 0 is 0");
        tells("5/0", 0);
        tells("0/0", 0);
        tells("7+5/0", 0);
        tells("5/0+7", 0);
        tells("7+5/(have-20)*3", 0);
        tells("(1+2)*(3-(4/(5-5)))+9", 0);
        tells("1/(1/2)+9", 0);
        Check.edge("II: looked at: an if ahead of the one that holds");
        tells("if 5/0<9 then 7 else 8", 0);
        tells("if 9<5/0 then 7 else 8", 0);
        tells("if 2<1 then 6 else if 1/0<9 then 7 else 8", 0);
        tells("if 2<1 then 6 else if 9<1/0 then 7 else 8", 0);
        tells("if 2<1/0 then 5 else if 1<2 then 6 else 7", 0);
        Check.edge("II: looked at: the E of the if that holds, or the last one");
        tells("if 1<2 then 5/0 else 8", 0);
        tells("if 2<1 then 7 else 5/0", 0);
        tells("if 2<1 then 6 else if 1<2 then 5/0 else 8", 0);
    }

    private static void dividedBy0NotLookedAt() {
        Check.edge("II: not looked at: what is told for an if that does not hold");
        tells("if 2<1 then 5/0 else 8", 8);
        tells("if 2<1 then 5/0 else if 1<2 then 7 else 8", 7);
        Check.edge("II: not looked at: what stands behind the if that holds");
        tells("if 1<2 then 7 else 5/0", 7);
        tells("if 1<2 then 7 else if 1<5/0 then 8 else 9", 7);
        tells("if 1<2 then 7 else if 1<2 then 5/0 else 9", 7);
        tells("if 2<1 then 6 else if 1<2 then 7 else if 5/0<1 then 8 else 9/0", 7);
    }

    private static void dividedBy0InEachLaw() {
        Check.edge("II: divided by 0: GROW is 0");
        FeatherCourt x = Check.court("man a 5;man b 5;grow=7+1/rank;");
        x.weeks(1);
        Check.due("a", x.man(0, 0), 5);
        Check.due("b", x.man(1, 0), 13);
        Check.edge("II: divided by 0: WARM is 0, which is not warm");
        Check.due("warm", Check.court("man a 5;man b 5;warm=7+1/rank;").warm(0), 2);
        Check.edge("II: divided by 0: VOTE is 0");
        x = Check.court("man a 5;man b 5;man c 5;vote a=0-7/(rank-1);vote b=7/(rank-1)-1;vote c=3-rank+5/(1-rank);");
        Check.due("a: 7, 0, -7", x.man(0, 5), 0);
        Check.due("b: -8, 0, 6", x.man(1, 5), 2);
        Check.due("c: 8, 0, -4", x.man(2, 5), 0);
        x = Check.court("man a 5;man b 5;man c 5;vote a=0-7*7/(1+rank*rank-2*rank);");
        Check.due("a: -49, 0, -49", x.man(0, 5), 1);
        x = Check.court("man a 5;man b 5;man c 5;vote a=(0-1)/(1-rank);vote b=0/rank;vote c=if rank<1 then 5/0 else 2-rank;");
        Check.due("a: -1, 0, 1", Check.court("man a 5;man b 5;vote a=(0-1)/(1-rank);").man(0, 5), 1);
        Check.due("a: -1, 0, 1, by its last one", x.man(0, 5), 2);
        Check.due("b: 0, 0, 0", x.man(1, 5), 0);
        Check.due("c: 0, 1, 0", x.man(2, 5), 1);
    }

    // ---- what a law sees ----

    /** Week 5 of 2 colds, wind 9; b was fined twice for d, once for e; 12 in the chest; b has 45 + 5 - 12 + 6. */
    private static FeatherCourt seen(String laws) {
        FeatherCourt x = Check.court("man a 30;man b 45;man c 3;deed d 1;deed e 1;deed f 1;cold 7 9;moult 3;fine d=5;fine e=2;" + laws);
        x.fine(1, 0);
        x.weeks(5);
        x.undo();
        x.undo();
        x.stuff(0, 1, 6);
        x.lend(2, 1, 2);
        x.repay(1, 2, 2);
        x.weeks(5);
        x.fine(1, 0);
        x.fine(1, 0);
        x.fine(1, 1);
        return x;
    }

    private static void fineSees() {
        String[] vars = {"have", "week", "wind", "chest", "rank"};
        int[] due = {39, 5, 9, 12, 1};
        for (int i = 0; i < vars.length; i++) {
            Check.edge("II: a FINE sees " + vars[i]);
            Check.due(vars[i], seen("fine f=" + vars[i] + ";").tariff(1, 2), due[i]);
        }
        Check.edge("II: a FINE sees times for that DEED alone");
        FeatherCourt x = Check.court("man a 9;man b 9;deed d 1;deed e 1;fine d=times;fine e=times+1;");
        x.fine(1, 0);
        x.fine(1, 0);
        x.fine(1, 1);
        x.fine(0, 1);
        x.fine(0, 1);
        x.fine(0, 1);
        Check.due("b for d", x.tariff(1, 0), 2);
        Check.due("b for e", x.tariff(1, 1), 2);
        Check.due("a for d", x.tariff(0, 0), 0);
        Check.due("a for e", x.tariff(0, 1), 4);
    }

    private static void growSees() {
        String[] vars = {"have", "times", "week", "wind", "chest", "rank"};
        int[] due = {39, 3, 5, 9, 12, 1};
        for (int i = 0; i < vars.length; i++) {
            Check.edge("II: GROW sees " + vars[i]);
            FeatherCourt x = seen("grow=if week<5 then 0 else " + vars[i] + ";");
            x.weeks(1);
            Check.due(vars[i], x.man(1, 0) - 39, due[i]);
        }
    }

    private static void warmSees() {
        String[] vars = {"have", "times", "week", "wind", "chest", "rank"};
        int[] due = {39, 3, 5, 9, 12, 1};
        for (int i = 0; i < vars.length; i++) {
            Check.edge("II: WARM sees " + vars[i]);
            Check.due("above less one", seen("warm=" + vars[i] + "-" + (due[i] - 1) + ";").man(1, 4), 1);
            Check.due("not above", seen("warm=" + vars[i] + "-" + due[i] + ";").man(1, 4), 0);
        }
    }

    /** Whether the VOTE of man a sees that b's is so, by being above 0 for b at that number alone. */
    private static void voteSees() {
        String[] vars = {"have", "times", "week", "wind", "chest", "rank"};
        int[] due = {39, 3, 5, 9, 12, 1};
        for (int i = 0; i < vars.length; i++) {
            Check.edge("II: a VOTE sees of whom he might vote for " + vars[i]);
            String off = "(" + vars[i] + "-" + due[i] + ")";
            FeatherCourt x = seen("vote a=if (rank-1)*(rank-1)<1 then 1-" + off + "*" + off + " else 0;");
            Check.due("at that number", x.man(0, 5), 1);
            x = seen("vote a=if (rank-1)*(rank-1)<1 then " + off + "*" + off + " else 0;");
            Check.due("off that number", x.man(0, 5), 0);
        }
        Check.edge("II: a VOTE sees times of whom he might vote for, not his own");
        FeatherCourt x = seen("vote a=times;vote b=0-times;vote c=times;");
        Check.due("a", x.man(0, 5), 1);
        Check.due("b", x.man(1, 5), 0);
        Check.due("c", x.man(2, 5), 1);
    }

    private static void chestOfAll() {
        Check.edge("II: chest: FEATHERS in the CHEST, whose ever");
        FeatherCourt x = Check.court("man a 30;man b 30;man c 5;deed d 1;fine d=5;deed e 1;fine e=chest;grow=chest;warm=chest-9;"
            + "vote a=if rank<1 then 0 else chest-9;vote b=if rank<1 then 0 else chest-10;");
        x.fine(0, 0);
        x.fine(1, 0);
        for (int man = 0; man < 3; man++) {
            Check.due("FINE of " + man, x.tariff(man, 1), 10);
        }
        Check.due("WARM", x.warm(0), 7);
        Check.due("VOTE above 9", x.man(0, 5), 1);
        Check.due("VOTE not above 10", x.man(1, 5), 0);
        x.weeks(1);
        Check.due("GROW", x.man(2, 0), 15);
    }

    private static void windGoesRound() {
        String twelve = "cold 0 1 2 3 4 5 6 7 8 9 10 11;";
        FeatherCourt x = Check.court("man a 5;deed d 1;fine d=wind;" + twelve);
        Check.edge("I: COLD of 12 numbers, week by week, again and again");
        for (int week = 0; week < 30; week++) {
            Check.due("wind", x.tariff(0, 0), week % 12);
            x.weeks(1);
        }
        Check.edge("I: COLD of one number");
        x = Check.court("man a 5;deed d 1;fine d=wind;cold 999;");
        Check.due("week 0", x.tariff(0, 0), 999);
        x.weeks(100);
        Check.due("week 100", x.tariff(0, 0), 999);
        Check.edge("I: COLD of none: 0");
        Check.due("not told", Check.court("man a 5;deed d 1;fine d=wind;").tariff(0, 0), 0);
        Check.due("an empty row", Check.court("man a 5;deed d 1;fine d=wind;cold;").tariff(0, 0), 0);
        Check.edge("I: the last row told");
        Check.due("an empty row", Check.court("man a 5;deed d 1;fine d=wind;cold 7;cold;").tariff(0, 0), 0);
        x = Check.court("man a 5;deed d 1;fine d=wind;cold 1 2 3;cold 4 5;");
        x.weeks(2);
        Check.due("two numbers, not three", x.tariff(0, 0), 4);
        Check.due("count(6)", x.count(6), 2);
    }

    // ---- what a law tells ----

    private static void fineIsHeld() {
        Check.edge("II: FINE held to 0 .. 999");
        tells("998", 998);
        tells("999", 999);
        tells("1000", 999);
        tells(MOST, 999);
        tells("1-1", 0);
        tells("0-1", 0);
        tells(LEAST, 0);
        FeatherCourt x = Check.court("man a 999;man b 999;deed d 1;fine d=1000;deed e 1;fine e=0-1;");
        x.stuff(0, 1, 999);
        Check.due("fine", x.fine(1, 0), 999);
        Check.due("fine", x.fine(1, 1), 0);
        Check.due("left", x.man(1, 0), 999);
    }

    private static void growIsHeld() {
        Check.edge("II: GROW held to 0 .. 999");
        FeatherCourt x = Check.court("man a 500;man b 500;man c 500;man d 500;man e 500;grow=if rank<1 then 999 else if rank<2 then 1000 "
            + "else if rank<3 then 0-1 else if rank<4 then " + MOST + " else " + LEAST + ";");
        x.weeks(1);
        int[] due = {1499, 1499, 500, 1499, 500};
        for (int man = 0; man < due.length; man++) {
            Check.due("man " + man, x.man(man, 0), due[man]);
        }
    }

    private static void warmIsNotHeld() {
        Check.edge("6: WARM above 0");
        Check.due("1", Check.court("man a 5;warm=1;").man(0, 4), 1);
        Check.due("0", Check.court("man a 5;warm=0;").man(0, 4), 0);
        Check.due("-1", Check.court("man a 5;warm=0-1;").man(0, 4), 0);
        Check.due("the most", Check.court("man a 5;warm=" + MOST + ";").man(0, 4), 1);
        Check.due("the least", Check.court("man a 5;warm=" + LEAST + ";").man(0, 4), 0);
        Check.due("wrapped", Check.court("man a 5;warm=" + MOST + "+1;").man(0, 4), 0);
    }

    private static void voteIsNotHeld() {
        Check.edge("III: what a VOTE tells goes through all ints");
        FeatherCourt x = Check.court("man a 1;man b 2;man c 3;vote a=0-9-rank;vote b=" + LEAST + "+rank;vote c=" + MOST + "-2+rank;");
        Check.due("a: -9, -10, -11", x.man(0, 5), 0);
        Check.due("b: the least, one more, two more", x.man(1, 5), 2);
        Check.due("c: up to the most", x.man(2, 5), 2);
        x = Check.court("man a 1;man b 2;man c 3;vote a=" + LEAST + ";vote b=" + MOST + "+rank;vote c=1000*(rank+1);");
        Check.due("a: the least of all", x.man(0, 5), 0);
        Check.due("b: wraps behind the first", x.man(1, 5), 0);
        Check.due("c: above 999", x.man(2, 5), 2);
    }

    private static void lastOneTold() {
        FeatherCourt x = Check.court("man a 40;man b 50;deed d 1;deed e 1;fine d=1;fine e=2;fine d=3;grow=4;grow=5;warm=0;warm=1;"
            + "vote b=rank;vote b=0-rank;cold 1;cold 2 3;moult 4;moult 6;");
        Check.edge("I: FINE: the last one told");
        Check.due("d", x.tariff(0, 0), 3);
        Check.due("e", x.tariff(0, 1), 2);
        Check.edge("I: WARM: the last one told");
        Check.due("warm", x.warm(0), 3);
        Check.edge("I: VOTE: the last one told");
        Check.due("b", x.man(1, 5), 0);
        Check.due("a, not told", x.man(0, 5), 1);
        Check.edge("I: MOULT: the last one told");
        Check.due("moult", x.count(7), 6);
        Check.edge("I: GROW: the last one told");
        x.weeks(1);
        Check.due("grown", x.man(0, 0), 45);
    }

    private static void eachOfItsOwn() {
        Check.edge("I: eight FINES, each of its DEED; eight VOTES, each of its MAN; numbered as they stand");
        StringBuilder text = new StringBuilder();
        for (int i = 0; i < 8; i++) {
            text.append("deed d").append((char) ('a' + i)).append(" 1;man m").append((char) ('a' + i)).append(' ').append(i).append(';');
        }
        for (int i = 7; i >= 0; i--) {
            text.append("fine d").append((char) ('a' + i)).append("=20+").append(i).append(";vote m").append((char) ('a' + i));
            text.append("=0-(rank-").append(7 - i).append(")*(rank-").append(7 - i).append(");");
        }
        FeatherCourt x = Check.court(text.toString());
        for (int i = 0; i < 8; i++) {
            Check.due("FEATHERS " + i, x.man(i, 0), i);
            Check.due("FINE " + i, x.tariff(0, i), 20 + i);
            Check.due("VOTE " + i, x.man(i, 5), 7 - i);
        }
    }
}
