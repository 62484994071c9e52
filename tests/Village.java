/** The example of README.md: a village of three men, a day at court, and what would be. */
public final class Village {
    public static void main(String[] args) {
        FeatherCourt court = new FeatherCourt();
        tape(court, "man ann 20; man bob 5; man cid 0; deed lie 3; deed steal 7;"
            + "fine lie = if times < 1 then 2 else 4; grow = 1; cold 3 9; moult 4;");
        System.out.println("fault " + court.read() + " at " + court.place());
        System.out.println("a lie costs ann " + court.tariff(0, 0) + ", a theft " + court.tariff(0, 1));
        System.out.println("plucked for a theft: " + court.fine(0, 1) + ", come back by appeal: " + court.appeal(0));
        System.out.println("ann lends cid 6: " + court.lend(0, 2, 6) + ", he owes her " + court.debt(2, 0));
        System.out.println("week " + court.weeks(1) + ", ann has " + court.man(0, 0) + ", warm: " + court.man(0, 4));
        System.out.println("a quilt of 8: guilt " + court.quilt(8, 0) + ", feathers " + court.quilt(8, 1));
        System.out.println("elected: " + court.elected(0) + ", weeks till bob is warm: " + court.warmBy(1));
        System.out.println("undone: " + court.undo() + ", week " + court.count(2));
        System.out.println("no such man: " + court.fine(9, 0));
    }

    /** Puts a text behind the tape: twenty bytes at a time, the blanks too many go back. */
    private static void tape(FeatherCourt court, String text) {
        int blanks = (20 - text.length() % 20) % 20;
        String padded = text + " ".repeat(blanks);
        for (int at = 0; at < padded.length(); at += 20) {
            int[] four = new int[5];
            for (int i = 0; i < 20; i++) {
                four[i / 4] = four[i / 4] << 8 | padded.charAt(at + i);
            }
            court.feed(four[0], four[1], four[2], four[3], four[4]);
        }
        court.back(blanks);
    }
}
