/** Promises 16 to 19: the tape, laws and their faults, which is in force, and what they say. */
public final class LawTest {
    private static final int NO_VALUE = -2000000000;
    private static final Check CHECK = new Check();

    private LawTest() {
    }

    public static void main(String[] args) {
        tape();
        lawsRefused();
        manyLaws();
        faults();
        faultsOfOpen();
        force();
        forceMadeLater();
        sums();
        order();
        choices();
        names();
        wrongNumbers();
        CHECK.end();
    }

    private static String times(String text, int n) {
        StringBuilder all = new StringBuilder();
        for (int i = 0; i < n; i++) {
            all.append(text);
        }
        return all.toString();
    }

    private static void tape() {
        CHECK.promise("16");
        HackneyStands x = new HackneyStands();
        CHECK.due("feed(0, 0)", x.feed(0, 0), -1);
        CHECK.due("feed(5, 0)", x.feed(5, 0), -1);
        CHECK.due("feed(-1, 0)", x.feed(-1, 0), -1);
        CHECK.due("feed(4, ..)", x.feed(4, '1' | '2' << 8 | '+' << 16 | '4' << 24), 4);
        CHECK.due("feed(3, ..)", x.feed(3, '0' | '-' << 8 | '1' << 16 | 'x' << 24), 7);
        CHECK.due("feed(2, ..)", x.feed(2, '0' | '*' << 8 | 'x' << 16), 9);
        CHECK.due("feed(1, ..)", x.feed(1, '2' | 'x' << 8), 10);
        CHECK.due("count(9)", x.count(9), 10);
        CHECK.due("law(0, 0)", x.law(0, 0), 0);
        CHECK.due("count(9)", x.count(9), 0);
        CHECK.due("says", x.says(0, 0, 0, 0, 0), 32);
        for (int i = 1; i <= 39; i++) {
            CHECK.due("feed(4, ..)", x.feed(4, 0), 4 * i);
        }
        CHECK.due("feed(3, ..)", x.feed(3, 0), 159);
        CHECK.due("feed(2, ..)", x.feed(2, 0), -2);
        CHECK.due("feed(5, ..)", x.feed(5, 0), -1);
        CHECK.due("feed(1, ..)", x.feed(1, 0), 160);
        CHECK.due("feed(1, ..)", x.feed(1, 0), -2);
        CHECK.due("count(9)", x.count(9), 160);
        // A byte above 127 is no sign of a text.
        HackneyStands y = new HackneyStands();
        y.feed(4, -1);
        CHECK.due("law of bytes 255", y.law(0, 0), -100);
        y.feed(2, '7' | 0xF9 << 8);
        CHECK.due("law of 7 and byte 249", y.law(0, 0), -101);
    }

    private static void lawsRefused() {
        CHECK.promise("17");
        HackneyStands x = new HackneyStands();
        Setup.feed(x, "1");
        CHECK.due("law(-1, 0)", x.law(-1, 0), -1);
        CHECK.due("law(3, 0)", x.law(3, 0), -1);
        CHECK.due("law(0, -1)", x.law(0, -1), -1);
        CHECK.due("law(0, 10000)", x.law(0, 10000), -1);
        CHECK.due("count(9)", x.count(9), 1);
        CHECK.due("law(0, 9999)", x.law(0, 9999), 0);
        CHECK.due("count(9)", x.count(9), 0);
        CHECK.due("law(0, 0) of nothing", x.law(0, 0), -100);
        Setup.feed(x, "1+");
        CHECK.due("law(0, 0) of 1+", x.law(0, 0), -102);
        CHECK.due("count(9)", x.count(9), 0);
        CHECK.due("count(4)", x.count(4), 1);
    }

    private static void manyLaws() {
        CHECK.promise("17, 40 of them");
        HackneyStands x = new HackneyStands();
        for (int i = 0; i < 40; i++) {
            CHECK.due("law", Setup.law(x, i % 3, 0, "1"), i);
        }
        Setup.feed(x, "1+2");
        CHECK.due("the 41st", x.law(0, 0), -2);
        CHECK.due("a wrong 41st", x.law(3, 0), -1);
        CHECK.due("count(9)", x.count(9), 3);
        Setup.feed(x, "!");
        CHECK.due("the 41st, with a fault", x.law(0, 0), -2);
        CHECK.due("count(9)", x.count(9), 4);
        CHECK.due("count(4)", x.count(4), 40);
    }

    /** Texts, each with its fault; -1: it has none. */
    private static void checkFaults(Object... rows) {
        for (int i = 0; i + 1 < rows.length; i += 2) {
            String text = (String) rows[i];
            int fault = (Integer) rows[i + 1];
            HackneyStands x = new HackneyStands();
            CHECK.due("law of " + text, Setup.law(x, 0, 0, text), fault < 0 ? 0 : -100 - fault);
        }
    }

    private static void faults() {
        CHECK.promise("17, faults");
        checkFaults("y", -1, "0", -1, "00000", -1, "99999", -1, "000000", 5, "1234567", 5, "12a", 2);
        checkFaults("t", -1, "w", -1, "n", -1, "p", -1, "b", -1, "d", -1, "h", -1, "s", -1);
        checkFaults("a", 0, "Y", 0, "yy", 1, "y1", 1, "1y", 1, " 1", 0, "1 ", 1, "1+ 1", 2);
        checkFaults("+1", 0, "-1", 0, "1+", 2, "1++1", 2, "1*-1", 2, "1-1-1", -1, "1*2/3%4", -1);
        checkFaults("1<2", -1, "1=2", -1, "1>2", -1, "1<", 2, "1<2<3", 3, "1<2=3", 3, "1==1", 2);
        checkFaults("(1<2)<3", -1, "1<(2<3)", -1, "(1<2", 4, "(1", 2, "()", 1, "(1))", 3, "(1)(2)", 3);
        checkFaults("1?2:3", -1, "1?2", 3, "1?2:", 4, "1?", 2, "?1:2", 0, "1:2", 1, "1?:2", 2);
        checkFaults("1?2:3:4", 5, "1?2?3:4:5", -1, "1?2:3?4:5", -1, "1?2?3:4", 7, "(1?2:3)?4:5", -1);
        checkFaults("(1?2):3", 4, "(1?2)", 4, "1?(2:3)", 4, "1<2?3<4:5<6", -1, "1<2?3<4<5:6", 7, "(1:2)", 2);
        checkFaults("1?2:3<4<5", 7, "1?2:3+", 6, "1?2)", 3, "1*(2+3)*(4-5)", -1, "1=2=", 3, "!", 0);
        checkFaults("1/0", -1, "1;2", 1, "1&2", 1, "1,2", 1, "1.2", 1, "1@", 1, "1" + (char) 0, 1, "/1", 0);
        checkFaults(times("1+", 79) + "11", -1, times("1+", 80), 160, times("y", 160), 1);
    }

    private static void faultsOfOpen() {
        CHECK.promise("17, 12 of ( and ? open");
        String twelve = times("(", 12);
        checkFaults(twelve + "1" + times(")", 12), -1, twelve + "(1", 12, twelve, 12, twelve + "1?2:3", 13);
        checkFaults(times("1?1:", 12) + "1", -1, times("1?1:", 13) + "1", 49, times("1?", 13), 25);
        checkFaults(times("1?", 12) + "1" + times(":1", 12), -1, times("1?1:", 12) + "(1)", 48);
        checkFaults(times("1?", 12) + "(", 24, times("(", 11) + "1?(", 13, times("(", 11) + "1?2:(", 15);
        // What is closed counts no more.
        checkFaults(times("(1)+", 30) + "1", -1, twelve + "1" + times(")", 12) + "+(1)", -1);
        checkFaults(times("(", 11) + "1?2:3)" + times(")", 10) + "?(1):(2)", -1);
        checkFaults(times("1?", 11) + "1?2:3:(1)" + times(":1", 10), -1, times("(1?2:3)?", 2) + "1:2:3", -1);
        checkFaults(times("(", 11) + "1?2:3)?4:5" + times(")", 10), -1);
        checkFaults(times("(", 11) + "(1)?4:5" + times(")", 11), -1);
        checkFaults(times("(", 11) + "(1)?(4):5", 15, times("(", 11) + "1?2:3?4:5", 16);
    }

    private static void force() {
        CHECK.promise("18");
        HackneyStands x = new HackneyStands();
        CHECK.due("inForce(-1, 0, 0)", x.inForce(-1, 0, 0), -1);
        CHECK.due("inForce(3, 0, 0)", x.inForce(3, 0, 0), -1);
        CHECK.due("inForce(0, -1, 0)", x.inForce(0, -1, 0), -1);
        CHECK.due("inForce(0, 10000, 0)", x.inForce(0, 10000, 0), -1);
        CHECK.due("inForce(0, 0, -1)", x.inForce(0, 0, -1), -1);
        CHECK.due("inForce(0, 0, 10000)", x.inForce(0, 0, 10000), -1);
        CHECK.due("inForce(0, 0, 0)", x.inForce(0, 0, 0), -9);
        Setup.law(x, 0, 5, "1");
        Setup.law(x, 1, 0, "2");
        Setup.law(x, 2, 0, "3");
        CHECK.due("inForce(0, 4, 9999)", x.inForce(0, 4, 9999), -9);
        CHECK.due("inForce(0, 5, 0)", x.inForce(0, 5, 0), 0);
        CHECK.due("inForce(0, 9999, 9999)", x.inForce(0, 9999, 9999), 0);
        CHECK.due("inForce(1, 0, 0)", x.inForce(1, 0, 0), 1);
        CHECK.due("inForce(2, 0, 0)", x.inForce(2, 0, 0), 2);
        // The one made last counts, not the one in force from the latest day.
        Setup.law(x, 0, 2, "4");
        CHECK.due("inForce(0, 1, 0)", x.inForce(0, 1, 0), -9);
        CHECK.due("inForce(0, 2, 0)", x.inForce(0, 2, 0), 3);
        CHECK.due("inForce(0, 5, 0)", x.inForce(0, 5, 0), 3);
    }

    private static void forceMadeLater() {
        CHECK.promise("18, as known");
        HackneyStands x = new HackneyStands();
        Setup.law(x, 0, 0, "1");
        Setup.pass(x, 1439);
        Setup.law(x, 0, 0, "2");
        Setup.pass(x, 1);
        Setup.law(x, 0, 0, "3");
        Setup.pass(x, 1440 * 2);
        Setup.law(x, 0, 4, "4");
        CHECK.due("inForce(0, 0, 0)", x.inForce(0, 0, 0), 1);
        CHECK.due("inForce(0, 0, 1)", x.inForce(0, 0, 1), 2);
        CHECK.due("inForce(0, 4, 1)", x.inForce(0, 4, 1), 2);
        CHECK.due("inForce(0, 4, 2)", x.inForce(0, 4, 2), 2);
        CHECK.due("inForce(0, 4, 3)", x.inForce(0, 4, 3), 3);
        CHECK.due("inForce(0, 3, 3)", x.inForce(0, 3, 3), 2);
        CHECK.due("inForce(0, 3, 9999)", x.inForce(0, 3, 9999), 2);
    }

    /** Texts, each with what it says for 1234 yards, 17 minutes of waiting, 3 persons and more. */
    private static void checkSays(Object... rows) {
        for (int i = 0; i + 1 < rows.length; i += 2) {
            String text = (String) rows[i];
            HackneyStands x = new HackneyStands();
            Setup.law(x, 2, 0, text);
            CHECK.due("says of " + text, x.says(0, 1234, 17, 3523, 41), (Integer) rows[i + 1]);
        }
    }

    private static void sums() {
        CHECK.promise("19, counting");
        checkSays("1+2", 3, "1-2", -1, "2*3", 6, "7/2", 3, "7%2", 1, "7/0", 0, "7%0", 0, "0/0", 0);
        checkSays("(0-7)/2", -3, "(0-7)%2", -1, "7/(0-2)", -3, "7%(0-2)", 1, "(0-7)/(0-2)", 3);
        checkSays("1<2", 1, "2<2", 0, "3<2", 0, "1=2", 0, "2=2", 1, "1>2", 0, "2>2", 0, "3>2", 1);
        checkSays("(0-1)<0", 1, "007", 7, "99999", 99999, "00000", 0);
        checkSays("99999*99999", 1409865409, "99999*99999*99999", 99999 * 99999 * 99999);
        checkSays("65536*32768", Integer.MIN_VALUE, "65536*32768-1", Integer.MAX_VALUE);
        checkSays("65536*32768/(0-1)", Integer.MIN_VALUE, "65536*32768%(0-1)", 0);
        checkSays("65536*32767+65535+1", Integer.MIN_VALUE);
    }

    private static void order() {
        CHECK.promise("19, order");
        checkSays("10-3-2", 5, "100/5/2", 10, "100/5*2", 40, "100%7*3", 6, "2+3*4", 14, "(2+3)*4", 20);
        checkSays("2*3+4", 10, "10-2*3", 4, "1+2<4", 1, "3<1+2", 0, "2*2=4", 1, "1<2+5", 1, "(1<2)+5", 6);
        checkSays("1-(2-(3-4))", -2, "3>2?1:0", 1, "1+(2>1?10:20)", 11, "((((7))))", 7);
        checkSays("1+(2-(3*(4-(5+(6-(7*(8-(9+(1-(2*(3-y)))))))))))", 51768, "1<2*(3<4*(5<y+1))", 1);
    }

    private static void choices() {
        CHECK.promise("19, choices");
        checkSays("1?2:3", 2, "0?2:3", 3, "0-1?2:3", 2, "1?0?2:3:4", 3, "0?2:0?3:4", 4, "0?2:1?3:4", 3);
        checkSays("1?1?2:3:4", 2, "1?2:3+10", 2, "0?2:3+10", 13, "1?2+10:3", 12, "(1?2:3)+10", 12);
        checkSays("(0?1:0)?4:5", 5, "(0?1:2)?4:5", 4, "1<2?3<4:9", 1, "2<1?9:4<3", 0, "(0?1:2)*(1?3:4)", 6);
        checkSays("5-(1?2:3)-1", 2, "0?1/0:7%0", 0, "1=1?p=3?10:20:30", 10, "1=1?p=4?10:20:30", 20);
    }

    private static void names() {
        CHECK.promise("19, names");
        // 1234 yards are gone in 12 minutes.
        checkSays("y", 1234, "t", 29, "w", 17, "n", 1, "p", 3, "b", 4, "d", 5, "h", 23, "s", 1000);
        HackneyStands x = new HackneyStands();
        Setup.law(x, 0, 9999, "t");
        CHECK.due("t of 0 yards", x.says(0, 0, 0, 0, 0), 0);
        CHECK.due("t of 1 yard", x.says(0, 1, 0, 0, 0), 1);
        CHECK.due("t of 110 yards", x.says(0, 110, 0, 0, 0), 1);
        CHECK.due("t of 111 yards", x.says(0, 111, 0, 0, 0), 2);
        CHECK.due("t of 99999 yards and 240", x.says(0, 99999, 240, 0, 0), 910 + 240);
        Setup.law(x, 1, 0, "0-5");
        CHECK.due("less than 0", x.says(1, 0, 0, 0, 0), -5);
        Setup.law(x, 1, 0, "y*1000");
        CHECK.due("more than a fare", x.says(2, 99999, 0, 0, 0), 99999000);
        Setup.law(x, 1, 0, "b*100+n*10+p+d+h");
        CHECK.due("all the least", x.says(3, 0, 0, 0, 0), 0);
        CHECK.due("all the most", x.says(3, 99999, 240, 9623, 601), 6000 + 10 + 9 + 6 + 23);
    }

    private static void wrongNumbers() {
        CHECK.promise("19, wrong numbers");
        HackneyStands x = new HackneyStands();
        Setup.law(x, 0, 0, "7");
        int[][] wrong = {
            {-1, 0, 0, 0, 0}, {1, 0, 0, 0, 0}, {40, 0, 0, 0, 0},
            {0, -1, 0, 0, 0}, {0, 100000, 0, 0, 0}, {0, 0, -1, 0, 0}, {0, 0, 241, 0, 0},
            {0, 0, 0, -1, 0}, {0, 0, 0, 24, 0}, {0, 0, 0, 99, 0}, {0, 0, 0, 700, 0}, {0, 0, 0, 923, 0},
            {0, 0, 0, 10000, 0}, {0, 0, 0, Integer.MAX_VALUE, 0}, {0, 0, 0, -1000, 0},
            {0, 0, 0, 0, -1}, {0, 0, 0, 0, 2}, {0, 0, 0, 0, 19}, {0, 0, 0, 0, -10},
        };
        for (int[] row : wrong) {
            String call = "says(" + row[0] + ", " + row[1] + ", " + row[2] + ", " + row[3] + ", " + row[4] + ")";
            CHECK.due(call, x.says(row[0], row[1], row[2], row[3], row[4]), NO_VALUE);
        }
        CHECK.due("says(0, 99999, 240, 9623, 11)", x.says(0, 99999, 240, 9623, 11), 7);
    }
}
