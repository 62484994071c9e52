/** Promises 1 to 5 and the TOKENS of a text: a test of its own for each edge that the document names there. */
public final class TapeEdgesTest {
    private static final int NONE = FeatherCourt.NONE;
    private static final int BLANKS = 0x20202020;

    public static void main(String[] args) {
        nothingIsTold();
        nothingToDo();
        objectsOfTheirOwn();
        feeds();
        feedOfAFullTape();
        backs();
        reads();
        places();
        textOf2000Bytes();
        eachByteAlone();
        eachByteBehindAName();
        eachByteBehindAnInt();
        blanks();
        longNames();
        namesAreTwo();
        words();
        longInts();
        longestTokens();
        Check.close("TapeEdgesTest");
    }

    private static void nothingIsTold() {
        Check.edge("1: nothing is told");
        FeatherCourt x = new FeatherCourt();
        for (int what = 0; what <= 11; what++) {
            Check.due("count(" + what + ")", x.count(what), 0);
        }
        for (int i : new int[] {-1, 0, 1}) {
            Check.due("man", x.man(i, 0), NONE);
            Check.due("led", x.led(NONE, i), NONE);
            Check.due("led", x.led(i, i), NONE);
            Check.due("debt", x.debt(i, 1 - i), NONE);
            Check.due("tariff", x.tariff(i, i), NONE);
            Check.due("fine", x.fine(i, i), NONE);
            Check.due("entry", x.entry(i, 0), NONE);
            Check.due("appeal", x.appeal(i), NONE);
            Check.due("stuff", x.stuff(i, 1 - i, 1), false);
            Check.due("lend", x.lend(i, 1 - i, 1), false);
            Check.due("repay", x.repay(i, 1 - i, 1), NONE);
            Check.due("warmBy", x.warmBy(i), NONE);
            Check.due("bald", x.bald(i), NONE);
            Check.due("did", x.did(i, 0), NONE);
            Check.due("surely", x.surely(i, 0), NONE);
            Check.due("tell", x.tell(i, 0), NONE);
            Check.due("quiltOf", x.quiltOf(1, i), NONE);
        }
    }

    private static void nothingToDo() {
        Check.edge("1: without men there is nothing to do");
        FeatherCourt x = new FeatherCourt();
        Check.due("place()", x.place(), NONE);
        Check.due("undo()", x.undo(), false);
        Check.due("restore(0)", x.restore(0), false);
        Check.due("forget()", x.forget(), 0);
        Check.due("payments()", x.payments(), 0);
        Check.due("warm(200)", x.warm(200), 0);
        Check.due("quilt(1, 0)", x.quilt(1, 0), -2);
        Check.due("quilt(400, 1)", x.quilt(400, 1), -2);
        Check.due("elected(0)", x.elected(0), -2);
        Check.due("elected(1)", x.elected(1), -2);
        Check.due("stuffer(1, 0, -1)", x.stuffer(1, 0, NONE), 0);
        Check.due("stuffer(1, 0, 0)", x.stuffer(1, 0, 0), NONE);
        Check.due("weeks(2)", x.weeks(2), 2);
        Check.due("hold(0)", x.hold(0), true);
        Check.due("weeks(1)", x.weeks(1), 3);
        Check.due("undo()", x.undo(), true);
        Check.due("restore(0)", x.restore(0), true);
        Check.due("week", x.count(2), 2);
    }

    private static FeatherCourt told(String text) {
        FeatherCourt x = Check.court(text);
        x.fine(0, 0);
        x.lend(1, 0, 3);
        x.tell(1, 4);
        x.hold(2);
        x.weeks(2);
        Check.feed(x, "man z");
        return x;
    }

    private static void objectsOfTheirOwn() {
        Check.edge("1: nothing is told, whatever other objects are told");
        String[] texts = {"man a 50;man b 40;deed d 9;fine d=7;grow=3;vote a=rank;cold 9;moult 2;", "man b 9;man a 8;deed e 1;warm=0;"};
        String[] alone = {Check.all(told(texts[0])), Check.all(told(texts[1]))};
        FeatherCourt x = told(texts[0]);
        FeatherCourt y = told(texts[1]);
        FeatherCourt z = new FeatherCourt();
        for (int what = 0; what <= 11; what++) {
            Check.due("count(" + what + ")", z.count(what), 0);
        }
        Check.due("restore(2)", z.restore(2), false);
        Check.due("undo()", z.undo(), false);
        Check.fault(z, "moult 0;", 5, 6);
        Check.due("the first one's place", x.place(), NONE);
        Check.due("the first one", Check.all(x), alone[0]);
        Check.due("the second one", Check.all(y), alone[1]);
    }

    // ---- promises 2 to 5 ----

    /** Twenty blanks, but for one byte at one place. */
    private static int feedWith(FeatherCourt x, int place, int b) {
        int[] four = {BLANKS, BLANKS, BLANKS, BLANKS, BLANKS};
        int shift = 24 - place % 4 * 8;
        four[place / 4] = BLANKS & ~(255 << shift) | b << shift;
        return x.feed(four[0], four[1], four[2], four[3], four[4]);
    }

    private static int feedBlanks(FeatherCourt x) {
        return x.feed(BLANKS, BLANKS, BLANKS, BLANKS, BLANKS);
    }

    private static FeatherCourt withBlanks(int feeds) {
        FeatherCourt x = new FeatherCourt();
        for (int i = 1; i <= feeds; i++) {
            Check.due("feed", feedBlanks(x), 20 * i);
        }
        return x;
    }

    private static void feeds() {
        Check.edge("2: twenty bytes, the highest of a first");
        for (int place = 0; place < 20; place++) {
            for (int b : new int[] {'?', 0, 128, 255}) {
                FeatherCourt x = new FeatherCourt();
                Check.due("feed", feedWith(x, place, b), 20);
                Check.due("read of " + b, x.read(), 1);
                Check.due("place of " + b, x.place(), place);
            }
        }
        Check.edge("2: they come behind the tape");
        for (int place = 0; place < 20; place++) {
            FeatherCourt x = withBlanks(1);
            Check.due("feed", feedWith(x, place, '?'), 40);
            Check.due("feed", feedWith(x, 0, '?'), 60);
            Check.due("read", x.read(), 1);
            Check.due("place", x.place(), 20 + place);
        }
        Check.edge("2: they come behind what back() has left");
        FeatherCourt x = withBlanks(1);
        x.back(7);
        Check.due("feed", feedWith(x, 3, '?'), 33);
        x.read();
        Check.due("place", x.place(), 16);
    }

    private static void feedOfAFullTape() {
        Check.edge("2: up to 2,000 bytes");
        FeatherCourt x = withBlanks(100);
        Check.due("count(8)", x.count(8), 2000);
        Check.edge("2: NONE, and nothing comes, above 2,000");
        for (int left = 2000; left > 1980; left--) {
            Check.due("feed behind " + left, feedWith(x, 19, '?'), NONE);
            Check.due("count(8)", x.count(8), left);
            Check.due("back(1)", x.back(1), left - 1);
        }
        Check.due("feed behind 1980", feedBlanks(x), 2000);
        Check.due("read of blanks alone", x.read(), 0);
        Check.due("feed behind it", feedBlanks(x), 20);
    }

    private static void backs() {
        Check.edge("3: the last n bytes of the tape go");
        for (int n = 0; n < 20; n++) {
            FeatherCourt x = new FeatherCourt();
            feedWith(x, 19 - n, '?');
            Check.due("back", x.back(n), 20 - n);
            Check.due("the byte ahead of them stays", x.read(), 1);
            feedWith(x, 19 - n, '?');
            Check.due("back", x.back(n + 1), 19 - n);
            Check.due("it went", x.read(), 0);
        }
        Check.edge("3: of no bytes");
        FeatherCourt x = new FeatherCourt();
        Check.due("back(0)", x.back(0), 0);
        Check.edge("3: NONE, if it has not so many");
        Check.due("back(1)", x.back(1), NONE);
        feedBlanks(x);
        for (int n : Check.far(21, 22, 40, -1, -20, -21)) {
            Check.due("back(" + n + ")", x.back(n), NONE);
            Check.due("and nothing goes", x.count(8), 20);
        }
        Check.edge("3: as many as it has");
        Check.due("back(20)", x.back(20), 0);
        x = withBlanks(100);
        Check.due("back(2001)", x.back(2001), NONE);
        Check.due("back(2000)", x.back(2000), 0);
    }

    private static void reads() {
        Check.edge("4: the tape is empty then, with a fault or without");
        FeatherCourt x = Check.court("man a 5;");
        Check.due("count(8)", x.count(8), 0);
        Check.due("back(1)", x.back(1), NONE);
        Check.fault(x, "?", 1, 0);
        Check.due("back(1)", x.back(1), NONE);
        Check.read(x, "man b 6;man c 7;");
        Check.due("what was read is not read again", x.count(0), 2);
        Check.edge("4: an empty tape is an empty text");
        Check.due("read", x.read(), 0);
        Check.due("men", x.count(0), 0);
        Check.edge("4: the number of its fault");
        Check.fault("?", 1, 0);
        Check.fault("cold 0 0 0 0 0 0 0 0 0 0 0 0 0;", 2, 29);
        Check.fault("man a 1;man a 1;", 3, 12);
        Check.fault("vote a = 1;", 4, 5);
        Check.fault("moult 0;", 5, 6);
    }

    private static void places() {
        FeatherCourt x = new FeatherCourt();
        Check.edge("5: NONE ahead of the first read()");
        Check.due("place", x.place(), NONE);
        Check.edge("5: the byte of the latest read()'s FAULT");
        Check.fault(x, "man a 1000;", 5, 6);
        Check.due("asked again", x.place(), 6);
        Check.feed(x, "    ?");
        Check.due("the tape has gone on", x.place(), 6);
        x.back(1);
        Check.due("and back", x.place(), 6);
        Check.due("read", x.read(), 0);
        Check.edge("5: NONE without");
        Check.due("place", x.place(), NONE);
        Check.edge("5: the latest of two faults");
        Check.fault(x, "man a 1000;", 5, 6);
        Check.fault(x, "  man ; ", 1, 6);
        Check.fault(x, "?", 1, 0);
        Check.due("weeks", x.weeks(1), 1);
        Check.due("what is done does not touch it", x.place(), 0);
    }

    // ---- I: tokens ----

    private static void textOf2000Bytes() {
        String blank = " ".repeat(1991);
        Check.edge("I: a text of 2,000 bytes");
        FeatherCourt x = Check.court(blank + "man a 17;");
        Check.due("feathers", x.man(0, 0), 17);
        x = Check.court("man a 17;" + blank);
        Check.due("feathers", x.man(0, 0), 17);
        Check.edge("I: a fault at the last of 2,000 bytes");
        Check.fault(blank + "man a 17?", 1, 1999);
        Check.edge("I: a fault at the end of 2,000 bytes");
        Check.fault(blank + "man abcde", 1, 2000);
        Check.edge("I: a text of two times 2,000 bytes, one behind the other");
        x = Check.court(blank + "man a 17;");
        Check.fault(x, "?" + " ".repeat(1999), 1, 0);
        Check.read(x, " ".repeat(2000));
        Check.due("men", x.count(0), 0);
    }

    private static boolean isBlank(int b) {
        return b == 9 || b == 10 || b == 13 || b == 32;
    }

    private static void eachByteAlone() {
        Check.edge("I: blanks are 9, 10, 13, 32; all else is no TOKEN");
        for (int b = 0; b < 256; b++) {
            Check.fault("" + (char) b, isBlank(b) ? 0 : 1, isBlank(b) ? NONE : 0);
        }
    }

    private static void eachByteBehindAName() {
        Check.edge("I: NAMES are of letters a .. z alone");
        for (int b = 0; b < 256; b++) {
            String text = "man a" + (char) b + "7;man a8;";
            if (b >= 'a' && b <= 'z') {
                Check.due("two men", Check.court(text).count(0), 2);
            } else if (b >= '0' && b <= '9' || isBlank(b)) {
                Check.fault(text, 3, 12);
            } else {
                Check.fault(text, 1, 5);
            }
        }
        Check.edge("I: a NAME goes from a to z");
        Check.court("man a 1;man z 1;deed az 1;deed za 1;");
        Check.fault("man A 1;", 1, 4);
        Check.fault("man Z 1;", 1, 4);
        Check.fault("man ` 1;", 1, 4);
        Check.fault("man { 1;", 1, 4);
    }

    private static void eachByteBehindAnInt() {
        Check.edge("I: INTS are of digits 0 .. 9 alone");
        for (int b = 0; b < 256; b++) {
            String text = "moult 1" + (char) b + ";";
            if (isBlank(b) || b >= '0' && b <= '9') {
                Check.due("moult", Check.court(text).count(7), isBlank(b) ? 1 : 10 + b - '0');
            } else {
                Check.fault(text, 1, b == ';' ? 8 : 7);
            }
        }
    }

    private static void blanks() {
        String bare = "man a5;man b6;deed c7;fine c=if have<6then(1+2)else 2*3/1-4;grow=3;warm=0;vote b=rank;cold 1 2;moult 9;";
        String[] tokens = bare.replaceAll("([;=+*/<()-]|[0-9]+)", " $1 ").trim().split(" +");
        Check.edge("I: no blank where none need be");
        checkBlanks(bare);
        Check.edge("I: blanks of each kind between all TOKENS");
        for (String blank : new String[] {" ", "\t", "\n", "\r", " \t\r\n "}) {
            checkBlanks(blank + String.join(blank, tokens) + blank);
        }
        Check.edge("I: other bytes are no blanks");
        for (int b : new int[] {0, 8, 11, 12, 14, 31, 33, 127, 128, 133, 160, 255}) {
            Check.fault("man" + (char) b + "a 5;", 1, 3);
        }
    }

    private static void checkBlanks(String text) {
        FeatherCourt x = Check.court(text);
        Check.due("fine of a", x.tariff(0, 0), 3);
        Check.due("fine of b", x.tariff(1, 0), 2);
        Check.due("vote of b", x.man(1, 5), 1);
        Check.due("colds", x.count(6), 2);
        Check.due("moult", x.count(7), 9);
        Check.due("weeks", x.weeks(1), 1);
        Check.due("feathers", x.man(1, 0), 9);
        Check.due("warm", x.warm(0), 0);
    }

    private static void longNames() {
        Check.edge("I: NAMES have 8 letters at most");
        for (int length = 1; length <= 8; length++) {
            String name = "n".repeat(length);
            Check.court("man " + name + " 5;vote " + name + "=1;");
            Check.court("deed " + name + " 5;fine " + name + "=1;");
        }
        Check.edge("I: a longer one is no TOKEN");
        for (int length : new int[] {9, 10, 12, 13, 14, 16, 17, 64, 500}) {
            String name = "n".repeat(length);
            Check.fault("man " + name + " 5;", 1, 4);
            Check.fault("deed " + name + " 5;", 1, 5);
            Check.fault("man n 5;vote " + name + "=1;", 1, 13);
            Check.fault("deed n 5;fine " + name + "=1;", 1, 14);
            Check.fault("man" + name + " 5;", 1, 0);
        }
        Check.fault("moult 5;rankrankr", 1, 8);
        Check.fault("grow=rankrankr;", 1, 5);
        Check.fault("mannnnnnnnnman a 5;", 1, 0);
    }

    private static void namesAreTwo() {
        Check.edge("I: NAMES that differ in one letter, or in how many, are two");
        StringBuilder text = new StringBuilder();
        for (int i = 1; i <= 8; i++) {
            text.append("man ").append("a".repeat(i)).append(' ').append(i).append(';');
            text.append("deed ").append("z".repeat(i)).append(' ').append(i).append(';');
        }
        for (int i = 8; i >= 1; i--) {
            text.append("fine ").append("z".repeat(i)).append('=').append(10 * i).append(';');
        }
        FeatherCourt x = Check.court(text.toString());
        for (int i = 0; i < 8; i++) {
            Check.due("feathers", x.man(i, 0), i + 1);
            Check.due("fine", x.tariff(0, i), 10 * (i + 1));
        }
        text.setLength(0);
        for (int i = 0; i < 8; i++) {
            StringBuilder name = new StringBuilder("aaaaaaaa");
            name.setCharAt(i, 'b');
            text.append("man ").append(name).append(' ').append(i).append(';');
            name.setCharAt(i, 'q');
            text.append("deed ").append(name).append(' ').append(i).append(';');
        }
        x = Check.court(text.toString());
        Check.due("men", x.count(0), 8);
        Check.due("deeds", x.count(1), 8);
        Check.court("man ab 1;man ba 1;man p 1;man aa 1;man bp 1;man pb 1;deed aaa 1;deed ap 1;deed b 1;");
    }

    private static void words() {
        for (String word : "man deed fine grow warm vote cold moult if then else have times week wind chest rank".split(" ")) {
            Check.edge("I: the word '" + word + "' is no NAME");
            Check.fault("man " + word + " 5;", 1, 4);
            Check.fault("deed " + word + " 5;", 1, 5);
            Check.fault("deed n 5;fine " + word + "=1;", 1, 14);
            Check.fault("man n 5;vote " + word + "=1;", 1, 13);
            Check.edge("I: more letters than '" + word + "' are a NAME");
            Check.court("man " + word + "s 5;man a" + word + " 5;vote " + word + "s=1;");
            Check.court("man " + word.substring(1) + "q 5;man " + word.charAt(0) + " 5;");
        }
    }

    private static void longInts() {
        Check.edge("I: INTS have 1 to 4 digits");
        Check.due("0", Check.court("man a 0;").man(0, 0), 0);
        Check.due("00", Check.court("man a 00;").man(0, 0), 0);
        Check.due("012", Check.court("man a 012;").man(0, 0), 12);
        Check.due("0999", Check.court("man a 0999;").man(0, 0), 999);
        Check.due("9999", Check.court(Check.men(1) + "deed d 1;fine d=9999-9000;").tariff(0, 0), 999);
        Check.edge("I: a longer one is no TOKEN");
        for (String number : new String[] {"00000", "00001", "12345", "000000000", "4294967297", "1".repeat(400)}) {
            Check.fault("man a " + number + ";", 1, 6);
            Check.fault("deed a " + number + ";", 1, 7);
            Check.fault("cold " + number + ";", 1, 5);
            Check.fault("moult " + number + ";", 1, 6);
            Check.fault("grow=" + number + ";", 1, 5);
        }
    }

    private static void longestTokens() {
        Check.edge("I: a TOKEN is the longest that can be");
        Check.fault("mana 5;", 1, 0);
        Check.fault("man aman 5;man aman 6;", 3, 15);
        Check.fault("grow=haverank;", 1, 5);
        Check.fault("grow=if 1<2 then 3 elsehave;", 1, 19);
        Check.fault("grow=if 1<2 thenhave else 3;", 1, 12);
        Check.fault("grow=ifhave<2 then 3 else 4;", 1, 5);
        Check.due("12 is one INT", Check.court("cold 12;").count(6), 1);
        Check.due("1 2 are two", Check.court("cold 1 2;").count(6), 2);
        Check.edge("I: letters end an INT, digits a NAME or a word");
        FeatherCourt x = Check.court("man a5;man b7;grow=if have<6then 1else 2;warm=have*1;moult5;cold7;");
        x.weeks(1);
        Check.due("feathers", x.man(0, 0), 6);
        Check.due("feathers", x.man(1, 0), 9);
        Check.due("moult", x.count(7), 5);
        Check.fault("man a1b;", 1, 6);
    }
}
