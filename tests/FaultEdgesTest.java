import java.util.Arrays;

/** What a text may tell, how much of it, and its FAULTS: a test of its own for each edge that the document names. */
public final class FaultEdgesTest {
    private static final int NONE = FeatherCourt.NONE;
    private static final String IF = "if 1<2 then 3 else ";

    /** What goes ahead of a TELL, and the TELL, with a blank ahead of each of its TOKENS. */
    private static final String[][] TELLS = {{"", " man a 5 ;"}, {"", " deed b 5 ;"}, {"deed b 5;", " fine b = 5 ;"}, {"", " grow = 5 ;"},
        {"", " warm = have ;"}, {"man a 5;", " vote a = rank ;"}, {"", " cold 5 6 ;"}, {"", " cold ;"}, {"", " moult 5 ;"},
        {"", " grow = if 1 < week then 3 else if 2 < 3 then 4 else 5 ;"}, {"", " warm = ( have + 2 ) * 3 / 4 - 5 ;"}};

    public static void main(String[] args) {
        emptyTexts();
        tellsThatEnd();
        strangers();
        otherSyntax();
        mostTokens();
        syntaxAtToken401();
        mostMenAndDeeds();
        mostColds();
        mostIfs();
        mostBrackets();
        firstOfSyntaxAndRoom();
        twice();
        noSuchName();
        wrongNumbers();
        firstByPlace();
        syntaxAndRoomGoAhead();
        changesNothing();
        lawsStay();
        inPlaceOfTheOneAhead();
        lawsBeginAnew();
        manyTexts();
        Check.close("FaultEdgesTest");
    }

    // ---- 1 SYNTAX ----

    private static void emptyTexts() {
        Check.edge("I: a text of no TELLS");
        for (String text : new String[] {"", " ", "\t\n\r "}) {
            FeatherCourt x = Check.court(text);
            Check.due("men", x.count(0), 0);
        }
    }

    private static String[] tokens(String tell) {
        return tell.trim().split(" ");
    }

    private static void tellsThatEnd() {
        for (String[] tell : TELLS) {
            Check.edge("I: 1 SYNTAX at the text's end, which is its length, within" + tell[1]);
            StringBuilder text = new StringBuilder(tell[0]);
            String[] tokens = tokens(tell[1]);
            for (int i = 0; i < tokens.length - 1; i++) {
                text.append(' ').append(tokens[i]);
                Check.fault(text.toString(), 1, text.length());
                Check.fault(text + " \n ", 1, text.length() + 3);
            }
            Check.court(text + " ;");
        }
    }

    private static void strangers() {
        for (String[] tell : TELLS) {
            Check.edge("I: 1 SYNTAX at what no text goes on with, within" + tell[1]);
            String[] tokens = tokens(tell[1]);
            StringBuilder text = new StringBuilder(tell[0]);
            for (int i = 0; i < tokens.length; i++) {
                String rest = " " + String.join(" ", Arrays.asList(tokens).subList(i + 1, tokens.length));
                for (String stranger : new String[] {"?", "\u00e9", "then", "abcdefghi", "12345", "<", "moult"}) {
                    boolean fits = stranger.equals(tokens[i]) || i == 0 && stranger.equals("moult");
                    if (!fits) {
                        Check.fault(text + stranger + rest, 1, text.length());
                        Check.fault(text + stranger + " ? ;", 1, text.length());
                    }
                }
                text.append(tokens[i]).append(' ');
            }
        }
    }

    private static void otherSyntax() {
        Check.edge("I: 1 SYNTAX: each TELL begins with a word of its own");
        for (String word : new String[] {"a", "5", ";", "=", "(", "if", "then", "else", "have", "times", "week", "wind", "chest", "rank"}) {
            Check.fault(" " + word, 1, 1);
            Check.fault("moult 5; " + word, 1, 9);
        }
        Check.edge("I: 1 SYNTAX: a TELL ends with one ;");
        Check.fault("moult 5;;", 1, 8);
        Check.fault("cold;;", 1, 5);
        Check.edge("I: 1 SYNTAX: a man and a deed have one NAME and one INT");
        Check.fault("man a b 5;", 1, 6);
        Check.fault("man 5;man b 5;?", 1, 4);
        Check.fault("man a;man b 5;?", 1, 5);
        Check.fault("man a 5 6;", 1, 8);
        Check.fault("deed a b 5;", 1, 7);
        Check.fault("deed 5;deed b 5;?", 1, 5);
        Check.fault("deed a;deed b 5;?", 1, 6);
        Check.fault("deed;deed b 5;?", 1, 4);
        Check.fault("deed a 5 6;", 1, 9);
        Check.edge("I: 1 SYNTAX: a fine and a vote have one NAME");
        Check.fault("deed d 5;fine =5", 1, 14);
        Check.fault("deed d 5;fine d d=5;", 1, 16);
        Check.fault("deed d 5;fine 5=5;?", 1, 14);
        Check.fault("man a 5;vote =5", 1, 13);
        Check.fault("man a 5;vote a a=5;", 1, 15);
        Check.fault("man a 5;vote have=5;?", 1, 13);
        Check.edge("I: 1 SYNTAX: a grow and a warm have none");
        Check.fault("man a 5;grow a=5;", 1, 13);
        Check.fault("man a 5;warm a=5;", 1, 13);
        Check.edge("I: 1 SYNTAX: a moult has one INT");
        Check.fault("moult;moult 5;?", 1, 5);
        Check.fault("moult 5 6;", 1, 8);
        Check.edge("I: 1 SYNTAX: an E has no sign of its own, and no if");
        Check.fault("grow=-5;", 1, 5);
        Check.fault("grow=+5;", 1, 5);
        Check.fault("grow=2*-5;", 1, 7);
        Check.fault("grow=2 3;", 1, 7);
        Check.fault("grow=2(3);", 1, 6);
        Check.fault("grow=(2)3;", 1, 8);
        Check.fault("grow=();", 1, 6);
        Check.fault("grow=2);", 1, 6);
        Check.fault("grow=(2;", 1, 7);
        Check.fault("grow=1<2;", 1, 6);
        Check.fault("grow=(if 1<2 then 3 else 4);", 1, 6);
        Check.fault("grow=if 1<2 then if 1<2 then 3 else 4 else 5;", 1, 17);
        Check.fault("grow=if 1<2<3 then 3 else 4;", 1, 11);
        Check.fault("grow=if 1 then 3 else 4;", 1, 10);
        Check.fault("grow=if (1<2) then 3 else 4;", 1, 10);
        Check.fault("grow=5 else 6;", 1, 7);
        Check.fault("grow=if 1<2 then 3 else 4 else 5;", 1, 26);
    }

    // ---- 2 ROOM ----

    /** A text of so many TOKENS; each of its colds has two of them and five bytes. */
    private static String colds(int tokens) {
        return "cold;".repeat(tokens / 2);
    }

    private static void mostTokens() {
        Check.edge("I: 400 TOKENS");
        FeatherCourt x = Check.court("man a 7;" + colds(396));
        Check.due("feathers", x.man(0, 0), 7);
        x = Check.court(colds(396) + "man a 7; ");
        Check.due("feathers", x.man(0, 0), 7);
        x = Check.court("man a 7;grow=1" + "+1".repeat(196) + ";");
        x.weeks(1);
        Check.due("the longest of sums", x.man(0, 0), 7 + 197);
        x = Check.court("man a 7;grow=1" + "*1".repeat(195) + "+1;");
        x.weeks(1);
        Check.due("the longest of products", x.man(0, 0), 9);
        Check.edge("I: 2 ROOM at a 401st TOKEN");
        for (String token : new String[] {"man", "deed", "fine", "grow", "warm", "vote", "cold", "moult"}) {
            Check.fault(colds(400) + " " + token, 2, 1001);
            Check.fault(colds(400) + token + " a 5;?", 2, 1000);
        }
        Check.fault(colds(398) + "cold 5 6;", 2, 1002);
        Check.fault(colds(398) + "cold 5;", 2, 1001);
        Check.fault(colds(396) + "moult 5;cold;", 2, 1002);
        Check.fault(colds(396) + "man a 5;", 0, NONE);
        Check.fault(colds(398) + "man a 5;", 2, 1001);
        Check.fault(colds(398) + "moult 5;", 2, 1002);
        Check.fault(colds(396) + "grow = 1;", 0, NONE);
        Check.fault(colds(396) + "grow = 1+1;", 2, 999);
        Check.fault(colds(396) + "grow = (1+1);", 2, 999);
        Check.fault(colds(398) + "grow = 1;", 2, 1002);
        Check.fault(colds(398) + "grow = have;", 2, 1002);
        Check.fault(colds(398) + "grow = (1);", 2, 1002);
        Check.fault(colds(398) + "grow = if 1<2 then 3 else 4;", 2, 1002);
        Check.fault("deed b 5;" + colds(396), 0, NONE);
        Check.fault("deed b 5;" + colds(394) + "fine b=1;", 2, 9 + 985 + 6);
        Check.fault("cold;".repeat(201) + "?", 2, 1000);
    }

    private static void syntaxAtToken401() {
        Check.edge("I: of one place the least: 1 SYNTAX, though it is a 401st TOKEN");
        for (String token : new String[] {"a", "5", ";", "=", "(", "then", "rank", "?", "abcdefghi", "12345"}) {
            Check.fault(colds(400) + " " + token, 1, 1001);
        }
        Check.fault(colds(398) + "cold 5 a", 1, 1002);
        Check.fault(colds(398) + "grow = ;", 1, 1002);
        Check.edge("I: the end of a text of 400 TOKENS is no 401st one");
        Check.fault(colds(398) + "cold 5", 1, 1001);
        Check.fault(colds(398) + "grow = ", 1, 1002);
        Check.fault(colds(400) + " ", 0, NONE);
    }

    private static String each(String word, int many, String first) {
        StringBuilder text = new StringBuilder();
        for (int i = 0; i < many; i++) {
            text.append(word).append(' ').append(first).append((char) ('a' + i)).append(" 1;");
        }
        return text.toString();
    }

    private static void mostMenAndDeeds() {
        most("man", "MEN", 0, "deed");
        most("deed", "DEEDS", 1, "man");
    }

    private static void most(String word, String says, int count, String other) {
        String eight = each(word, 8, "m");
        String others = each(other, 8, "n");
        int end = eight.length();
        Check.edge("I: 8 " + says);
        Check.due("alone", Check.court(eight).count(count), 8);
        Check.due("behind others", Check.court(others + eight).count(count), 8);
        Check.edge("I: 2 ROOM at the first TOKEN of a 9th " + word);
        Check.fault(eight + "  " + word + " z 1;", 2, end + 2);
        Check.fault(eight + word, 2, end);
        Check.fault(eight + word + ";", 2, end);
        Check.fault(eight + word + " ma 1000;", 2, end);
        Check.fault(eight + others + word + " z 1;", 2, end + others.length());
        Check.fault(eight + "moult 5;" + word + " z 1;?", 2, end + 8);
        Check.fault((word + " a 1;").repeat(9), 2, 8 * (word.length() + 5));
        Check.edge("I: 8 " + says + ", of each text alone");
        FeatherCourt x = Check.court(eight);
        Check.read(x, eight);
        Check.due("again", x.count(count), 8);
    }

    private static void mostColds() {
        String twelve = "cold 1 2 3 4 5 6 7 8 9 10 11 12";
        Check.edge("I: 12 numbers of a COLD");
        Check.due("colds", Check.court(twelve + ";").count(6), 12);
        Check.due("of each cold alone", Check.court(twelve + ";cold 1;" + twelve + ";").count(6), 12);
        Check.edge("I: 2 ROOM at a 13th number of a cold");
        Check.fault(twelve + " 13;", 2, 32);
        Check.fault(twelve + "  13", 2, 33);
        Check.fault(twelve + " 1000;", 2, 32);
        Check.fault(twelve + ";" + twelve + " 0;?", 2, 32 + 32);
        Check.fault(twelve + " 13 14?", 2, 32);
        Check.edge("I: what is no number behind 12 of them is 1 SYNTAX");
        Check.fault(twelve + " a;", 1, 32);
        Check.fault(twelve + " 12345;", 1, 32);
    }

    private static void mostIfs() {
        Check.edge("I: 4 ifs of a LAW");
        FeatherCourt x = Check.court("man a 5;grow=if 1<1 then 1 else if 1<1 then 2 else if 1<1 then 3 else if 1<2 then 4 else 5;");
        x.weeks(1);
        Check.due("feathers", x.man(0, 0), 9);
        Check.court("man a 5;deed b 5;fine b=" + IF.repeat(4) + "1;grow=" + IF.repeat(4) + "1;warm=" + IF.repeat(4) + "1;vote a="
            + IF.repeat(4) + "1;");
        Check.edge("I: 2 ROOM at a 5th if of a LAW");
        Check.fault("grow=" + IF.repeat(4) + " if 1<2 then 3 else 4;", 2, 6 + 4 * IF.length());
        Check.fault("grow=" + IF.repeat(4) + "if", 2, 5 + 4 * IF.length());
        Check.fault("grow=" + IF.repeat(4) + "if?", 2, 5 + 4 * IF.length());
        Check.fault("deed b 5;fine b=" + IF.repeat(5) + "1;", 2, 16 + 4 * IF.length());
        Check.fault("man b 5;vote b=" + IF.repeat(5) + "1;", 2, 15 + 4 * IF.length());
        Check.fault("warm=" + IF.repeat(9) + "1;", 2, 5 + 4 * IF.length());
    }

    private static void mostBrackets() {
        Check.edge("I: 6 ( within one another");
        FeatherCourt x = Check.court("man a 5;grow=((((((3))))))*((((((3)))))) - (((((1)+((1))))));");
        x.weeks(1);
        Check.due("feathers", x.man(0, 0), 5 + 7);
        Check.court("grow=(1)+(1)+(1)+(1)+(1)+(1)+(1)+(1)*(1)*(1)*(1)*(1)*(1)*(1)*(1);");
        Check.court("grow=if ((((((1))))))<((((((1)))))) then ((((((1)))))) else ((((((1))))));");
        Check.edge("I: 2 ROOM at a 7th ( within one another");
        Check.fault("grow=(((((((1)))))));", 2, 11);
        Check.fault("grow=((((((  (", 2, 13);
        Check.fault("grow=(((((((?", 2, 11);
        Check.fault("grow=((((((1))))))+(((((((1)))))));", 2, 25);
        Check.fault("grow=(1+(2*(3-(4/(5+(6*(7)))))));", 2, 23);
        for (String law : new String[] {"grow=if S<1 then 2 else 3;", "grow=if 1<S then 2 else 3;", "grow=if 1<2 then S else 3;",
            "grow=if 1<2 then 3 else S;", "warm=1*S;"}) {
            Check.fault(law.replace("S", "(((((((1)))))))"), 2, law.indexOf('S') + 6);
        }
    }

    private static void firstOfSyntaxAndRoom() {
        Check.edge("I: 1 SYNTAX and 2 ROOM: the first by its place");
        Check.fault("grow=(((((((1)))))));?", 2, 11);
        Check.fault("?grow=(((((((1)))))));", 1, 0);
        Check.fault("grow=((((((?(", 1, 11);
        Check.fault("grow=((((((1)))))));", 1, 18);
        Check.fault("cold 0 0 0 0 0 0 0 0 0 0 0 0 0?", 2, 29);
        Check.fault("cold 0 0 0 0 0 0 0 0 0 0 0 0? 0", 1, 28);
        Check.fault("man ;" + each("man", 9, "m"), 1, 4);
        Check.fault(each("man", 9, "m") + colds(400), 2, 72);
        Check.fault("warm=(((((((1)))))));" + each("man", 9, "m"), 2, 11);
    }

    // ---- 3 TWICE, 4 NAME, 5 WRONG ----

    private static void twice() {
        Check.edge("I: 3 TWICE, MEN and DEEDS together");
        Check.fault("man a 1; man a 1;", 3, 13);
        Check.fault("deed a 1; deed a 1;", 3, 15);
        Check.fault("man a 1; deed a 1;", 3, 14);
        Check.fault("deed a 1; man a 1;", 3, 14);
        Check.fault(each("man", 8, "x") + each("deed", 7, "y") + "deed xh 1;", 3, 72 + 70 + 5);
        Check.fault(each("man", 7, "x") + each("deed", 8, "y") + "man yh 1;", 3, 63 + 80 + 4);
        Check.fault("man a 1;man b 1;man c 1;man b 1;man a 1;", 3, 28);
        Check.edge("I: a NAME told by the text ahead is not told already");
        FeatherCourt x = Check.court("man a 1;deed b 1;");
        Check.read(x, "man b 1;deed a 1;");
    }

    private static void noSuchName() {
        Check.edge("I: 4 NAME: no such one told ahead, a DEED for a fine");
        Check.fault("fine  a = 1;", 4, 6);
        Check.fault("fine a = 1;deed a 1;", 4, 5);
        Check.fault("man a 1;fine a = 1;", 4, 13);
        Check.fault("deed a 1;fine aa = 1;", 4, 14);
        Check.fault("deed a 1;fine b = 1;deed b 1;fine b = 2;", 4, 14);
        Check.edge("I: 4 NAME: no such one told ahead, a MAN for a vote");
        Check.fault("vote  a = 1;", 4, 6);
        Check.fault("vote a = 1;man a 1;", 4, 5);
        Check.fault("deed a 1;vote a = 1;", 4, 14);
        Check.fault("man a 1;vote aa = 1;", 4, 13);
        Check.edge("I: 4 NAME: told by the text ahead is not told");
        FeatherCourt x = Check.court("man a 1;deed b 1;");
        Check.fault(x, "fine b = 1;", 4, 5);
        Check.fault(x, "vote a = 1;", 4, 5);
        Check.fault(x, "man a 1;?", 1, 8);
        Check.fault(x, "vote a = 1;", 4, 5);
        Check.edge("I: a NAME told right ahead");
        Check.court("deed a 1;fine a = 1;man b 1;vote b = 1;fine a = 2;");
    }

    private static void wrongNumbers() {
        Check.edge("I: FEATHERS of 0 .. 999");
        Check.due("none", Check.court("man a 0;").man(0, 0), 0);
        Check.due("most", Check.court("man a 999;").man(0, 0), 999);
        Check.edge("I: 5 WRONG at FEATHERS above 999");
        Check.fault("man a  1000;", 5, 7);
        Check.fault("man a 9999;", 5, 6);
        Check.edge("I: GUILT of 0 .. 99");
        Check.due("none", Check.court("man a 10;deed b 0;").quilt(1, 0), 0);
        Check.due("most", Check.court("man a 10;deed b 99;").quilt(1, 0), 99);
        Check.edge("I: 5 WRONG at GUILT above 99");
        Check.fault("deed a  100;", 5, 8);
        Check.fault("deed a 9999;", 5, 7);
        Check.edge("I: a COLD of 0 .. 999");
        Check.due("colds", Check.court("cold 0 999 0;").count(6), 3);
        Check.edge("I: 5 WRONG at a COLD above 999");
        Check.fault("cold 1000;", 5, 5);
        Check.fault("cold 999 0 1000 1001;", 5, 11);
        Check.fault("cold 1 2 3 4 5 6 7 8 9 10 11 1000;", 5, 29);
        Check.fault("cold 1000;cold 5;", 5, 5);
        Check.edge("I: MOULT each 1 .. 99 weeks");
        Check.due("moult", Check.court("moult 1;").count(7), 1);
        Check.due("moult", Check.court("moult 99;").count(7), 99);
        Check.edge("I: 5 WRONG at a MOULT of 0, or above 99");
        Check.fault("moult  0;", 5, 7);
        Check.fault("moult 0000;", 5, 6);
        Check.fault("moult 100;", 5, 6);
        Check.fault("moult 9999;moult 5;", 5, 6);
        Check.edge("I: an INT of a LAW is any one");
        Check.court("grow=0*1000*9999*100;warm=if 1000<9999 then 1000 else 9999;");
    }

    private static void firstByPlace() {
        Check.edge("I: 3 TWICE, 4 NAME, 5 WRONG: the first by its place");
        Check.fault("man a 1;man a 1;fine z=1;moult 0;", 3, 12);
        Check.fault("man a 1;fine z=1;man a 1;moult 0;", 4, 13);
        Check.fault("man a 1;moult 0;man a 1;fine z=1;", 5, 14);
        Check.fault("man a 1;moult 0;fine z=1;man a 1;", 5, 14);
        Check.fault("man a 1;fine z=1;moult 0;man a 1;", 4, 13);
        Check.fault("man a 1;man a 1;moult 0;fine z=1;", 3, 12);
        Check.fault("man a 1;man a 1000;", 3, 12);
        Check.fault("man a 1;deed a 100;", 3, 13);
        Check.fault("man a 1000;man a 1;", 5, 6);
        Check.fault("deed a 100;fine b=1;", 5, 7);
        Check.fault("man a 1000;vote a=1;", 5, 6);
        Check.fault("cold 1000;cold 1001;", 5, 5);
        Check.fault("vote b=1;vote c=1;", 4, 5);
    }

    private static void syntaxAndRoomGoAhead() {
        Check.edge("I: 3, 4 and 5 are looked for if there is no 1 and no 2");
        Check.fault("man a 1;man a 1;?", 1, 16);
        Check.fault("fine z=1; moult", 1, 15);
        Check.fault("moult 0 0;", 1, 8);
        Check.fault("man a 1000", 1, 10);
        Check.fault("man a 1;man a 1", 1, 15);
        Check.fault("vote a = ;", 1, 9);
        Check.fault("man a 1;man a 1;grow=(((((((1)))))));", 2, 27);
        Check.fault("moult 0;" + each("man", 9, "m"), 2, 80);
        Check.fault("vote a=" + IF.repeat(5) + "1;", 2, 7 + 4 * IF.length());
        Check.fault("cold 1000 0 0 0 0 0 0 0 0 0 0 0 0;", 2, 32);
        Check.fault("man a 1;man a 1;" + colds(400), 2, 16 + 980);
    }

    // ---- with a fault, and without ----

    private static final String VILLAGE = "man a 50;man b 40;man c 0;deed d 9;deed e 0;fine d=times+week+3;grow=rank+1;warm=have-wind;"
        + "vote b=0-have;cold 20 30 40;moult 4;";

    private static FeatherCourt busy() {
        FeatherCourt x = Check.court(VILLAGE);
        x.fine(0, 0);
        x.fine(1, 1);
        x.appeal(0);
        x.lend(0, 1, 5);
        x.stuff(1, 2, 3);
        x.weeks(2);
        x.tell(3, 1);
        x.hold(1);
        return x;
    }

    private static void changesNothing() {
        String[] faults = {"", "man a 9;?", "cold 0 0 0 0 0 0 0 0 0 0 0 0 0;", "man z 9;man z 8;", "man z 8;fine z=1;", "moult 7;man z 1000;"};
        for (int fault = 1; fault <= 5; fault++) {
            Check.edge("I: a text with a FAULT changes nothing but the tape: " + fault);
            FeatherCourt x = busy();
            String before = Check.all(x);
            Check.feed(x, faults[fault]);
            Check.due("read", x.read(), fault);
            Check.due("all", Check.all(x), before);
            Check.due("undo", x.undo(), true);
            Check.due("restore(1)", x.restore(1), true);
        }
    }

    private static void lawsStay() {
        Check.edge("I: the LAWS stay as they are, whatever a text with a FAULT tells");
        FeatherCourt x = busy();
        FeatherCourt y = busy();
        for (int i = 0; i < 3; i++) {
            Check.feed(x, "man d 1;deed a 7;fine a=99;grow=50;warm=1-have;vote d=1;cold 900;moult 1;man d 3;");
            Check.due("read", x.read(), 3);
        }
        for (FeatherCourt z : new FeatherCourt[] {x, y}) {
            z.weeks(3);
            z.fine(1, 0);
        }
        Check.due("all", Check.all(x), Check.all(y));
    }

    private static void inPlaceOfTheOneAhead() {
        FeatherCourt x = busy();
        x.hold(0);
        x.hold(2);
        Check.read(x, VILLAGE);
        String[] says = {"MEN", "DEEDS", "week 0", "the CHEST empty", "FEATHERS as told", "nothing written down", "COLD", "MOULT",
            "the tape is empty", "nothing can be undone", "nothing is TOLD", "SLOTS hold nothing"};
        int[] due = {3, 2, 0, 0, 90, 0, 3, 4, 0, 0, 0, 0};
        for (int what = 0; what < due.length; what++) {
            Check.edge("I: in place of the text ahead: " + says[what]);
            Check.due("count(" + what + ")", x.count(what), due[what]);
        }
        Check.edge("I: in place of the text ahead: all is as on a new object");
        Check.due("all", Check.all(x), Check.all(Check.court(VILLAGE)));
        Check.due("undo", x.undo(), false);
        Check.due("entry", x.entry(0, 0), NONE);
        for (int slot = 0; slot < 3; slot++) {
            Check.due("restore", x.restore(slot), false);
        }
        Check.edge("I: in place of the text ahead: no DEBTS");
        Check.due("debt", x.debt(1, 0), 0);
        Check.due("payments", x.payments(), 0);
    }

    private static void lawsBeginAnew() {
        FeatherCourt x = Check.court(VILLAGE);
        Check.read(x, "man a 30;man b 20;deed d 1;deed e 1;");
        Check.edge("I: FINE of a DEED is 10 if not told");
        Check.due("tariff", x.tariff(0, 0), 10);
        Check.due("tariff", x.tariff(1, 1), 10);
        Check.edge("I: VOTE of a MAN is have if not told");
        Check.due("a votes", x.man(0, 5), 0);
        Check.due("b votes", x.man(1, 5), 0);
        Check.edge("I: WARM is have - wind if not told, wind 0 without a COLD");
        Check.due("warm", x.warm(0), 3);
        Check.edge("I: nothing grows if not told");
        x.weeks(5);
        Check.due("feathers", x.man(0, 0), 30);
        Check.edge("I: no MOULT, if not told");
        x.fine(0, 0);
        x.weeks(100);
        Check.due("times", x.man(0, 2), 1);
        Check.edge("I: WARM is have - wind if not told: 0 is not warm");
        Check.read(x, "man a 30;man b 20;man c 21;man d 0;cold 20;");
        Check.due("warm", x.warm(0), 5);
    }

    private static void manyTexts() {
        Check.edge("I: texts in place of one another, again and again");
        FeatherCourt x = new FeatherCourt();
        for (int i = 0; i < 8; i++) {
            Check.read(x, "man a 1;deed d 1;fine d=" + "1+".repeat(i) + "have+" + "1+".repeat(150) + "0;");
            Check.due("fine", x.tariff(0, 0), i + 151);
        }
        for (int i = 0; i < 8; i++) {
            Check.fault(x, "man a 1;deed d 1;fine d=" + "2+".repeat(150) + "0;?", 1, 326);
            Check.due("fine", x.tariff(0, 0), 7 + 151);
        }
    }
}
