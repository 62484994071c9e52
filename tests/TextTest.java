/** Promises 1 to 5: a new object, the tape, texts and their faults, laws. */
public final class TextTest {
    private static final int NONE = FeatherCourt.NONE;

    public static void main(String[] args) {
        newObject();
        tape();
        tokens();
        syntax();
        room();
        names();
        numbers();
        order();
        faultChangesNothing();
        textBeginsAnew();
        laws();
        Check.close("TextTest");
    }

    private static void newObject() {
        FeatherCourt x = new FeatherCourt();
        Check.due("NONE", FeatherCourt.NONE, -1);
        for (int what = 0; what <= 11; what++) {
            Check.due("1: count(" + what + ")", x.count(what), 0);
        }
        Check.due("1: place()", x.place(), NONE);
        Check.due("1: undo()", x.undo(), false);
        Check.due("1: restore(0)", x.restore(0), false);
        Check.due("1: man(0, 0)", x.man(0, 0), NONE);
        Check.due("1: forget()", x.forget(), 0);
    }

    private static void tape() {
        FeatherCourt x = new FeatherCourt();
        for (int i = 1; i <= 100; i++) {
            Check.due("2: feed", x.feed(0x20202020, 0x20202020, 0x20202020, 0x20202020, 0x20202020), 20 * i);
        }
        Check.due("2: feed beyond 2000", x.feed(0, 0, 0, 0, 0), NONE);
        Check.due("2: nothing came", x.count(8), 2000);
        Check.due("3: back(1)", x.back(1), 1999);
        Check.due("2: feed to 2019", x.feed(0, 0, 0, 0, 0), NONE);
        Check.due("3: back(-1)", x.back(-1), NONE);
        Check.due("3: back(2000)", x.back(2000), NONE);
        Check.due("3: back(min)", x.back(Integer.MIN_VALUE), NONE);
        Check.due("3: back(max)", x.back(Integer.MAX_VALUE), NONE);
        Check.due("3: nothing went", x.count(8), 1999);
        Check.due("3: back(0)", x.back(0), 1999);
        Check.due("3: back(19)", x.back(19), 1980);
        Check.due("2: feed to 2000", x.feed(0, 0, 0, 0, 0), 2000);
        Check.due("3: back(20)", x.back(20), 1980);
        FeatherCourt y = new FeatherCourt();
        Check.due("3: back(0) of an empty tape", y.back(0), 0);
        Check.due("3: back(1) of an empty tape", y.back(1), NONE);
        y.feed(1, 2, 3, 4, 5);
        Check.due("3: all go", y.back(20), 0);
        Check.due("3: none is left", y.count(8), 0);
        Check.due("4: only blanks", x.read(), 0);
        Check.due("4: the tape is empty", x.count(8), 0);
        // "man a 7;moult 99;   " by its bytes, the highest of each int first
        Check.due("2: feed", x.feed(0x6d616e20, 0x6120373b, 0x6d6f756c, 0x74203939, 0x3b202020), 20);
        Check.due("4: read", x.read(), 0);
        Check.due("2: man", x.man(0, 0), 7);
        Check.due("2: moult", x.count(7), 99);
    }

    private static void tokens() {
        FeatherCourt x = Check.court("man\ta\r5\n;man b6;man manx 007;deed abcdefgh 9;fine abcdefgh=1+2*3;cold 1 2 3 0004;");
        Check.due("men", x.count(0), 3);
        Check.due("man b6", x.man(1, 0), 6);
        Check.due("007", x.man(2, 0), 7);
        Check.due("1+2*3", x.tariff(0, 0), 7);
        Check.due("colds", x.count(6), 4);
        x = Check.court("cold 1 2;cold;");
        Check.due("an empty row of cold is the last one", x.count(6), 0);
        x = Check.court("moult 5;moult 7;cold 4;cold 5 6;");
        Check.due("the last moult", x.count(7), 7);
        Check.due("the last cold", x.count(6), 2);
        Check.fault("man abcdefghi 5;", 1, 4);
        Check.fault("man A 5;", 1, 4);
        Check.fault("man aB 5;", 1, 5);
        Check.fault("man a 12345;", 1, 6);
        Check.fault("man a 00000;", 1, 6);
        Check.fault("man a\f5;", 1, 5);
        Check.fault("man a\0005;", 1, 5);
        Check.fault("man a\u00a05;", 1, 5);
        Check.fault("man a 5.", 1, 7);
        Check.fault("man a;man b 5;oops", 1, 5);
        Check.fault("man;man b 5;oops", 1, 3);
        Check.fault("fine;man b 5;oops", 1, 4);
        Check.fault("moult;man b 5;oops", 1, 5);
        Check.fault("\u00e9", 1, 0);
        for (String word : "man deed fine grow warm vote cold moult if then else have times week wind chest rank".split(" ")) {
            Check.fault("man " + word + " 5;", 1, 4);
        }
        Check.fault("mandeed 5;", 1, 0);
        Check.fault("man mandeed;", 1, 11);
    }

    private static void syntax() {
        Check.fault("man", 1, 3);
        Check.fault("man a 5", 1, 7);
        Check.fault("man a 5  \n", 1, 10);
        Check.fault("  ;", 1, 2);
        Check.fault("man 5;", 1, 4);
        Check.fault("man a;", 1, 5);
        Check.fault("man a 5 5;", 1, 8);
        Check.fault("a", 1, 0);
        Check.fault("grow 5;", 1, 5);
        Check.fault("grow = ;", 1, 7);
        Check.fault("grow = 5 5;", 1, 9);
        Check.fault("grow = - 5;", 1, 7);
        Check.fault("grow = 5 + ;", 1, 11);
        Check.fault("grow = 5 * * 5;", 1, 11);
        Check.fault("grow = (5;", 1, 9);
        Check.fault("grow = 5);", 1, 8);
        Check.fault("grow = ();", 1, 8);
        Check.fault("grow = 5 < 6;", 1, 9);
        Check.fault("grow = if 1 then 2 else 3;", 1, 12);
        Check.fault("grow = if 1 < 2 else 3;", 1, 16);
        Check.fault("grow = if 1 < 2 then 3;", 1, 22);
        Check.fault("grow = if 1 < 2 < 3 then 3 else 4;", 1, 16);
        Check.fault("grow = if 1 < 2 then if 1 < 2 then 3 else 4 else 5;", 1, 21);
        Check.fault("grow = (if 1 < 2 then 3 else 4);", 1, 8);
        Check.fault("grow = name;", 1, 7);
        Check.fault("fine = 5;", 1, 5);
        Check.fault("vote 5 = 5;", 1, 5);
        Check.fault("cold have;", 1, 5);
        Check.fault("moult;", 1, 5);
        Check.fault("moult 5 6;", 1, 8);
        Check.fault("deed a 5;then", 1, 9);
    }

    private static String many(String what, int times) {
        return what.repeat(times);
    }

    private static void room() {
        StringBuilder men = new StringBuilder();
        StringBuilder deeds = new StringBuilder();
        for (int i = 0; i < 8; i++) {
            men.append("man m").append((char) ('a' + i)).append(" 1;");
            deeds.append("deed d").append((char) ('a' + i)).append(" 1;");
        }
        FeatherCourt x = Check.court(men.toString() + deeds);
        Check.due("8 men", x.count(0), 8);
        Check.due("8 deeds", x.count(1), 8);
        Check.fault(men + " man z 1;", 2, 73);
        Check.fault(men + " man", 2, 73);
        Check.fault(deeds + "  deed ma 1;", 2, 82);
        Check.fault("man a 1;" + men.toString().replace("mc", "ma"), 2, 8 + 63);
        x = Check.court("cold 1 2 3 4 5 6 7 8 9 10 11 12;");
        Check.due("12 numbers of cold", x.count(6), 12);
        Check.fault("cold 1 2 3 4 5 6 7 8 9 10 11 12 13;", 2, 32);
        Check.fault("cold 1 2 3 4 5 6 7 8 9 10 11 12 13 oops", 2, 32);
        Check.court("cold 1 2 3 4 5 6 7 8 9 10 11 12;cold 1 2 3 4 5 6 7 8 9 10 11 12;");
        String one = "if 1<2 then 3 else ";
        Check.court("grow=" + many(one, 4) + "5;warm=" + many(one, 4) + "5;");
        Check.fault("grow=" + many(one, 5) + "5;", 2, 5 + 4 * one.length());
        Check.court("grow=((((((1))))));");
        Check.court("grow=((((((1))))))+((((((1))))))*(1)*((2)/((3)));");
        Check.fault("grow=(((((((1)))))));", 2, 11);
        Check.fault("grow=1+((((2*(3-(have*(5", 2, 22);
        Check.fault("grow=1+((((2*(3-(have*5)))))))", 1, 29);
        Check.court("warm=if ((((((1)))))) < ((((((1)))))) then ((((((1)))))) else ((((((1))))));");
        // grow = 1 + 1 ... of 400 tokens in all, one more and a fault of syntax at the same place
        String sum = "cold 1 2;grow=1" + many("+1", 196);
        x = Check.court(sum + ";");
        Check.due("400 tokens", x.count(6), 2);
        x = Check.court("man a 1;grow=1" + many("+1", 196) + ";");
        x.weeks(1);
        Check.due("the longest of sums", x.man(0, 0), 198);
        Check.fault(sum + ";" + "moult 5;", 2, sum.length() + 1);
        Check.fault(sum + ";" + "oops", 1, sum.length() + 1);
        Check.fault(sum + ";" + "?", 1, sum.length() + 1);
        Check.fault(sum + "+1;", 2, sum.length() + 1);
        Check.fault(sum + "+;", 1, sum.length() + 1);
        Check.fault(sum + "+", 1, sum.length() + 1);
    }

    private static void names() {
        Check.fault("man a 1;man a 2;", 3, 12);
        Check.fault("man a 1;deed a 2;", 3, 13);
        Check.fault("deed a 1;man b 2;deed a 2;", 3, 22);
        Check.fault("deed a 1;man a 2;", 3, 13);
        Check.fault("fine a = 1;deed a 1;", 4, 5);
        Check.fault("man a 1;fine a = 1;", 4, 13);
        Check.fault("deed a 1;vote a = 1;", 4, 14);
        Check.fault("vote a = 1;", 4, 5);
        Check.court("deed a 1;man b 1;fine a = 1;vote b = 1;fine a = 2;vote b = 2;");
    }

    private static void numbers() {
        Check.court("man a 0;man b 999;deed c 0;deed d 99;cold 0 999;moult 1;moult 99;grow=9999*0;");
        Check.fault("man a 1000;", 5, 6);
        Check.fault("deed a 100;", 5, 7);
        Check.fault("cold 1 2 1000 2000;", 5, 9);
        Check.fault("moult 0;", 5, 6);
        Check.fault("moult 100;", 5, 6);
    }

    private static void order() {
        Check.fault("man a 1000;man a 1;", 5, 6);
        Check.fault("man a 1;man a 1000;", 3, 12);
        Check.fault("man a 1;man a 1000", 1, 18);
        Check.fault("man a 1;man a 1000;grow=(((((((", 2, 30);
        Check.fault("moult 0;fine a=1;", 5, 6);
        Check.fault("fine a=1;moult 0;", 4, 5);
        Check.fault("grow=(((((((1)))))));oops", 2, 11);
        Check.fault("oops;grow=(((((((1)))))));", 1, 0);
    }

    private static void faultChangesNothing() {
        FeatherCourt x = Check.court("man a 50;man b 5;deed c 3;");
        x.fine(0, 0);
        x.lend(0, 1, 4);
        x.tell(1, 2);
        x.hold(1);
        Check.feed(x, "man z 1;man z 2;");
        Check.due("4: a fault", x.read(), 3);
        Check.due("5: its place", x.place(), 12);
        Check.due("4: men", x.count(0), 2);
        Check.due("4: feathers", x.man(0, 0), 36);
        Check.due("4: debts", x.debt(1, 0), 4);
        Check.due("4: things to undo", x.count(9), 2);
        Check.due("4: told", x.count(10), 1);
        Check.due("4: slots", x.count(11), 1);
        Check.due("4: the tape is empty", x.count(8), 0);
        Check.due("4: read an empty tape", x.read(), 0);
        Check.due("5: no fault", x.place(), NONE);
        Check.due("4: nobody is there", x.count(0), 0);
    }

    private static void textBeginsAnew() {
        FeatherCourt x = Check.court("man a 50;man b 5;deed c 3;moult 3;cold 1;");
        x.fine(0, 0);
        x.lend(0, 1, 4);
        x.weeks(4);
        x.fine(0, 0);
        x.tell(1, 2);
        x.hold(1);
        Check.feed(x, "man z 1;man y 2;deed x 1;");
        Check.due("4: read", x.read(), 0);
        int[] due = {2, 1, 0, 0, 3, 0, 0, 0, 0, 0, 0, 0};
        for (int what = 0; what < due.length; what++) {
            Check.due("4: count(" + what + ")", x.count(what), due[what]);
        }
        Check.due("4: no debts", x.debt(1, 0), 0);
        Check.due("4: no times", x.man(0, 2), 0);
        Check.due("4: nothing can be undone", x.undo(), false);
        Check.due("4: no slot holds anything", x.restore(1), false);
        Check.due("4: no entry", x.entry(0, 0), NONE);
        for (int slot = 0; slot < 3; slot++) {
            x.hold(slot);
        }
        Check.feed(x, "man z 9;deed x 1;fine x=1;grow=5;warm=1;vote z=5;moult 3;cold 4;man y 10;vote y=0-have;");
        Check.due("4: read", x.read(), 0);
        Check.due("32: slots", x.count(11), 0);
        for (int i = 0; i < 2; i++) {
            Check.feed(x, "man z 3;man y 5;deed x 1;");
            Check.due("4: read", x.read(), 0);
            Check.due("I: a fine is 10 if not told", x.tariff(0, 0), 10);
            x.weeks(3);
            Check.due("I: nothing grows if not told", x.man(0, 0), 3);
            Check.due("I: warm is have less wind if not told", x.man(0, 4), 1);
            Check.due("I: a vote is have if not told", x.man(1, 5), 1);
            Check.due("I: no moult if not told", x.count(7), 0);
            Check.due("I: no cold if not told", x.count(6), 0);
        }
    }

    /** What the law of a fine tells for the second man, who has 20 feathers. */
    private static void law(String law, int due) {
        FeatherCourt x = Check.court("man a 5;man b 20;deed c 1;deed d 1;cold 7 8;fine c = " + law + ";");
        x.fine(1, 1);
        x.undo();
        x.weeks(3);
        Check.due(law, x.tariff(1, 0), due);
    }

    private static void laws() {
        law("have", 20);
        law("week", 3);
        law("wind", 8);
        law("rank", 1);
        law("chest", 0);
        law("times", 0);
        law("10 - 3 - 2", 5);
        law("10 - (3 - 2)", 9);
        law("100 / 5 / 2", 10);
        law("100 / (5 / 2)", 50);
        law("2 + 3 * 4 - 5", 9);
        law("(2 + 3) * 4", 20);
        law("7 / 2", 3);
        law("10 + (0 - 7) / 2", 7);
        law("0 - 5", 0);
        law("5000", 999);
        law("9999 * 9999", 999);
        law("9999 * 9999 * 9999", 0);
        law("(9999 * 9999 * 22 - 9999 * 9999 * 21) / 9999 / 9999", 1);
        law("5 / 0", 0);
        law("5 + 5 / (have - 20)", 0);
        law("9 + 0 / 0", 0);
        law("if have < 20 then 5 / 0 else 6", 6);
        law("if have < 21 then 5 else 6 / 0", 5);
        law("if 5 / 0 < 1 then 5 else 6", 0);
        law("if 1 < 0 / 0 then 5 else 6", 0);
        law("if 2 < 1 then 5 else if 1 < 2 then 6 else 7", 6);
        law("if 1 < 2 then 5 else if 1 / 0 < 2 then 6 else 7", 5);
        law("if 2 < 1 then 5 else if 1 / 0 < 2 then 6 else 7", 0);
        law("if 1 < 1 then 5 else if 2 < 2 then 6 else if 3 < 3 then 7 else if 4 < 5 then 8 else 9", 8);
        law("if 1 < 1 then 5 else if 2 < 2 then 6 else if 3 < 3 then 7 else if 5 < 5 then 8 else 9", 9);
        law("if have - 30 < 0 - 9 then 1 else 2", 1);
        // 46341 * 46341 wraps below 0
        law("if (4634 * 10 + 1) * (4634 * 10 + 1) < 0 then 3 else 4", 3);
        // the least int divided by -1 is itself
        law("if (0 - 2048 * 1024 * 1024) / (0 - 1) < 0 then 3 else 4", 3);
    }
}
