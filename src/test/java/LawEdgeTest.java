/** The sentences of promises 16 to 19, and those of 'Terms' on laws, that name an edge. */
public final class LawEdgeTest {
    private static final int DAY = 1440;
    private static final int MIN = Integer.MIN_VALUE;
    private static final int MAX = Integer.MAX_VALUE;
    private static final int NO_VALUE = -2000000000;
    private static final Check CHECK = new Check();

    private LawEdgeTest() {
    }

    public static void main(String[] args) {
        feed();
        tapeFull();
        tapeOfAllBytes();
        lawNumbers();
        lawEmptiesTape();
        lawsFull();
        firstBytes();
        secondBytes();
        ruleOfE();
        ruleOfC();
        ruleOfSumsAndProducts();
        ruleOfO();
        digits();
        openBraces();
        openQuestions();
        openOfBoth();
        closedAgain();
        leastPlace();
        endsTooEarly();
        longTexts();
        wrapping();
        dividing();
        comparing();
        choosing();
        inForceNumbers();
        inForceFrom();
        inForceAsKnown();
        saysNumbers();
        saysWhat();
        saysBad();
        saysNames();
        CHECK.end();
    }

    private static Run run() {
        return new Run(CHECK);
    }

    /** A text with a fault in a told place. */
    private static void checkFault(String text, int place) {
        run().tape(text).due("law(0, 0)", -100 - place).due("count(4)", 0).due("count(9)", 0);
    }

    /** A text that gives a told number by numbers alone. */
    private static void checkWorth(String text, int worth) {
        run().tape(text).due("law(0, 0)", 0).due("says(0, 0, 0, 0, 0)", worth);
    }

    private static void feed() {
        CHECK.sentence("Promise 16", "n (1 .. 4) bytes come to THE TAPE, the lowest of v first: how many it has.");
        Run run = run().refuses("feed(0, 49)", -1).refuses("feed(-1, 49)", -1).refuses("feed(5, 49)", -1);
        run.refuses("feed(" + MIN + ", 49)", -1).refuses("feed(" + MAX + ", 49)", -1).due("count(9)", 0);
        // 56 is 8, 45 is -, 51 is 3: 8-3, then -8 and 3 more.
        run.due("feed(1, 56)", 1).due("feed(2, " + (45 + 256 * 51) + ")", 3);
        run.due("feed(4, " + (45 + 256 * (56 + 256 * (43 + 256 * 51))) + ")", 7).due("count(9)", 7);
        run.due("law(0, 0)", 0).due("says(0, 0, 0, 0, 0)", 0);
        // Just the lowest n bytes of v count.
        run.due("feed(1, " + (0xABCDEF00 + '4') + ")", 1).due("feed(2, " + ('-' + 256 * '1' + 65536 * 99) + ")", 3);
        run.due("feed(3, " + (0x7F000000 + 0x303030) + ")", 6).due("law(0, 0)", 1).due("says(1, 0, 0, 0, 0)", -996);
        run.due("feed(3, " + ('7' + 256 * '0' + 65536 * '0') + ")", 3).due("law(0, 0)", 2).due("says(2, 0, 0, 0, 0)", 700);
    }

    private static void tapeFull() {
        CHECK.sentence("Terms", "THE TAPE has at most 160 bytes.");
        for (int left = 0; left <= 4; left++) {
            Run run = run().tape("0".repeat(160 - left)).due("count(9)", 160 - left);
            for (int n = 4; n > left; n--) {
                run.refuses("feed(" + n + ", 0)", -2).due("count(9)", 160 - left);
            }
            for (int n = 1; n <= left; n++) {
                run.due("feed(1, 48)", 160 - left + n);
            }
            run.refuses("feed(1, 48)", -2);
        }
        CHECK.sentence("Promise 16", "NONE, FULL.");
        Run run = run().tape("1+".repeat(79)).due("feed(2, " + ('1' + 256 * '2') + ")", 160).due("count(9)", 160);
        run.refuses("feed(1, 49)", -2).refuses("feed(4, 0)", -2);
        // NONE is named ahead of FULL.
        run.refuses("feed(0, 49)", -1).refuses("feed(5, 49)", -1).refuses("feed(-1, 49)", -1);
        run.due("law(0, 0)", 0).due("says(0, 0, 0, 0, 0)", 91).due("feed(4, 0)", 4);
    }

    private static void tapeOfAllBytes() {
        CHECK.sentence("Promise 16", "bytes come to THE TAPE");
        // A byte of 128 or more is a byte, too, and no sign of any text.
        run().due("feed(1, -1)", 1).due("feed(4, -1)", 5).due("feed(2, 0)", 7).due("count(9)", 7).due("law(0, 0)", -100);
        run().due("feed(2, " + ('1' + 256 * 177) + ")", 2).due("law(0, 0)", -101);
        run().due("feed(4, " + ('1' + 256 * '+' + 65536 * '1') + ")", 4).due("law(0, 0)", -103);
        run().due("feed(1, " + ('1' - 256) + ")", 1).due("law(0, 0)", 0).due("says(0, 0, 0, 0, 0)", 1);
        run().due("feed(1, " + ('1' + 256) + ")", 1).due("law(0, 0)", 0).due("says(0, 0, 0, 0, 0)", 1);
    }

    private static void lawNumbers() {
        CHECK.sentence("Terms", "A LAW is a TEXT of a KIND: 0 FARE by distance, 1 FARE by time, 2 REFUSAL.");
        Run run = run().make("feed(1, 49)").refuses("law(-1, 0)", -1).refuses("law(3, 0)", -1);
        run.refuses("law(" + MIN + ", 0)", -1).refuses("law(" + MAX + ", 0)", -1).due("law(2, 0)", 0);
        run.make("feed(1, 50)").due("law(1, 0)", 1).make("feed(1, 51)").due("law(0, 0)", 2);
        run.due("inForce(2, 0, 0)", 0).due("inForce(1, 0, 0)", 1).due("inForce(0, 0, 0)", 2);
        CHECK.sentence("Promise 17", "THE TAPE is made a LAW of a KIND, in force from a DAY (0 .. 9999) on");
        run.make("feed(1, 52)").refuses("law(0, -1)", -1).refuses("law(0, 10000)", -1).refuses("law(0, " + MIN + ")", -1);
        run.refuses("law(0, " + MAX + ")", -1).due("law(0, 9999)", 3).due("inForce(0, 9998, 0)", 2);
        run.due("inForce(0, 9999, 0)", 3).make("feed(1, 53)").due("law(0, 0)", 4).due("inForce(0, 0, 0)", 4);
        // A day that is gone may be told, too.
        run.passTo(3 * DAY).make("feed(1, 54)").due("law(0, 0)", 5).due("inForce(0, 0, 3)", 5).due("inForce(0, 0, 2)", 4);
    }

    private static void lawEmptiesTape() {
        CHECK.sentence("Promise 17", "it is empty then: its number; -100 less its FAULT, if it has one (it is empty then, "
            + "too). NONE; FULL (THE TAPE stays).");
        Run run = run().tape("12").due("law(0, 0)", 0).due("count(9)", 0).due("says(0, 0, 0, 0, 0)", 12);
        run.tape("4").due("count(9)", 1).due("law(0, 0)", 1).due("says(1, 0, 0, 0, 0)", 4);
        run.tape("1+").due("law(0, 0)", -102).due("count(9)", 0).due("count(4)", 2).tape("2").due("law(0, 0)", 2);
        run.due("says(2, 0, 0, 0, 0)", 2).due("law(0, 0)", -100).due("law(0, 0)", -100).due("count(4)", 3);
        // What is NONE leaves the tape, with a fault or without one.
        run.tape("9").refuses("law(3, 0)", -1).refuses("law(0, 10000)", -1).due("count(9)", 1).due("law(0, 0)", 3);
        run.tape("+9").refuses("law(-1, 0)", -1).refuses("law(0, -1)", -1).due("count(9)", 2).due("law(0, 0)", -100);
    }

    private static void lawsFull() {
        CHECK.sentence("Terms", "LAWS 0 .. 39, as they were made (on a DAY), each in force from a DAY on");
        Run run = run();
        for (int i = 0; i < 40; i++) {
            run.refuses("says(" + i + ", 0, 0, 0, 0)", NO_VALUE).tape("" + i).due("law(" + i % 3 + ", " + i + ")", i);
            run.due("count(4)", i + 1).due("says(" + i + ", 0, 0, 0, 0)", i);
        }
        run.due("inForce(0, 38, 0)", 36).due("inForce(0, 39, 0)", 39).due("inForce(1, 9999, 0)", 37);
        CHECK.sentence("Promise 17", "FULL (THE TAPE stays)");
        run.refuses("law(0, 0)", -2).tape("7").refuses("law(0, 0)", -2).refuses("law(2, 9999)", -2).due("count(9)", 1);
        // A text with a fault stays, too; NONE is named ahead of FULL.
        run.tape("+").refuses("law(0, 0)", -2).due("count(9)", 2).refuses("law(3, 0)", -1).refuses("law(-1, 0)", -1);
        run.refuses("law(0, -1)", -1).refuses("law(0, 10000)", -1).tape("x".repeat(158)).refuses("law(1, 5)", -2);
        run.due("count(9)", 160).due("count(4)", 40).refuses("says(40, 0, 0, 0, 0)", NO_VALUE);
        run.refuses("tried(40, -1, 0)", -1).refuses("tried(-1, 40, 0)", -1);
    }

    private static void firstBytes() {
        CHECK.sentence("Terms", "FAULT: the least place (from 0) of a byte with which no TEXT goes on");
        // Each byte alone: a law, a text that ends too early, or a fault in place 0.
        for (int half = 0; half < 256; half += 128) {
            Run run = run();
            int laws = 0;
            for (int b = half; b < half + 128; b++) {
                boolean isLaw = b < 128 && "0123456789ytwnpbdhs".indexOf(b) >= 0;
                run.due("feed(1, " + b + ")", 1).due("law(2, 7)", isLaw ? laws++ : b == '(' ? -101 : -100);
            }
            run.due("count(4)", half == 0 ? 19 : 0);
        }
    }

    private static void secondBytes() {
        CHECK.sentence("Terms", "of a byte with which no TEXT goes on (the 6th digit of a number; the 13th that would be open)");
        for (String first : new String[] {"1", "y", "s"}) {
            for (int half = 0; half < 256; half += 128) {
                Run run = run();
                int laws = 0;
                for (int b = half; b < half + 128; b++) {
                    boolean isLaw = b < 128 && first.equals("1") && Character.isDigit(b);
                    boolean goesOn = b < 128 && "+-*/%<=>?".indexOf(b) >= 0;
                    run.due("feed(2, " + (first.charAt(0) + 256 * b) + ")", 2);
                    run.due("law(0, 0)", isLaw ? laws++ : goesOn ? -102 : -101);
                }
            }
        }
    }

    private static void ruleOfE() {
        CHECK.sentence("Terms", "E = C [ ? E : E ].");
        checkWorth("1?2:3", 2);
        checkWorth("0?2:3", 3);
        checkWorth("1?2:3?4:5", 2);
        checkWorth("0?2:3?4:5", 4);
        checkWorth("1?0?4:5:6", 5);
        checkWorth("0?1?4:5:6", 6);
        checkWorth("1?2:3+100", 2);
        checkWorth("0?2:3+100", 103);
        checkWorth("(0?2:3)?7:8", 7);
        checkFault("?1:2", 0);
        checkFault("1?:2", 2);
        checkFault("1??2:3", 2);
        checkFault("1?2)", 3);
        checkFault("1?2;3", 3);
        checkFault("1?2::3", 4);
        checkFault("1?2:3:4", 5);
        checkFault("1?2?3:4", 7);
        checkFault("1?2?3:4:5:6", 9);
        checkFault("1:2", 1);
        checkFault("1?2:3)", 5);
        checkFault("(1:2)", 2);
    }

    private static void ruleOfC() {
        CHECK.sentence("Terms", "C = S [ < S, = S, or > S ].");
        checkWorth("1+1<3-0", 1);
        checkWorth("2*2=8/2", 1);
        checkWorth("(1<2)<3", 1);
        checkWorth("3>(2>1)", 1);
        checkWorth("1<2?3<4:5", 1);
        for (String signs : new String[] {"<<", "<=", "<>", "==", "=<", "=>", ">>", ">=", "><"}) {
            checkFault("1" + signs.charAt(0) + "2" + signs.charAt(1) + "3", 3);
            checkFault("1" + signs + "2", 2);
        }
        checkFault("<1", 0);
        checkFault("1<)", 2);
        checkFault("1<?2:3", 2);
        checkFault("1!=2", 1);
    }

    private static void ruleOfSumsAndProducts() {
        CHECK.sentence("Terms", "S = P { + P, - P }. P = O { * O, / O, % O }.");
        checkWorth("7-2-1", 4);
        checkWorth("7-2+1", 6);
        checkWorth("100/5/2", 10);
        checkWorth("100%7*2", 4);
        checkWorth("7*100%9", 7);
        checkWorth("2+3*4", 14);
        checkWorth("2*3+4", 10);
        checkWorth("(2+3)*4", 20);
        checkWorth("20-6/4*3", 17);
        checkWorth("1-1-1-1", -2);
        for (char sign : "+-*/%".toCharArray()) {
            checkFault(sign + "1", 0);
            checkFault("1" + sign + sign + "1", 2);
            checkFault("(1" + sign + ")", 3);
            checkFault("1" + sign + "?1:1", 2);
            checkFault("1" + sign + "<1", 2);
        }
        checkFault("-1", 0);
        checkFault("1+-1", 2);
        checkFault("1*-1", 2);
    }

    private static void ruleOfO() {
        CHECK.sentence("Terms", "O = a number of 1 to 5 digits, a NAME, ( E ). No blanks.");
        checkWorth("(1)", 1);
        checkWorth("((1))", 1);
        checkWorth("(0?1:2)", 2);
        checkWorth("(1<2)+1", 2);
        checkFault("()", 1);
        checkFault(")", 0);
        checkFault("1)", 1);
        checkFault("(1))", 3);
        checkFault("(1)2", 3);
        checkFault("(1)y", 3);
        checkFault("(1)(2)", 3);
        checkFault("1(2)", 1);
        checkFault("y(2)", 1);
        checkFault("y2", 1);
        checkFault("2y", 1);
        checkFault("yt", 1);
        checkFault("Y", 0);
        checkFault("a", 0);
        checkFault("1+x", 2);
        checkFault(" 1", 0);
        checkFault("1 ", 1);
        checkFault("1 +1", 1);
        checkFault("1+ 1", 2);
        checkFault("1.5", 1);
        checkFault("1\n", 1);
    }

    private static void digits() {
        CHECK.sentence("Terms", "(the 6th digit of a number");
        checkWorth("9", 9);
        checkWorth("00000", 0);
        checkWorth("00012", 12);
        checkWorth("99999", 99999);
        checkWorth("99999+99999", 199998);
        checkFault("000000", 5);
        checkFault("123456", 5);
        checkFault("1234567", 5);
        checkFault("1+123456", 7);
        checkFault("(12345+123456)", 12);
        checkFault("12345(", 5);
        checkFault("123456+", 5);
    }

    private static void openBraces() {
        CHECK.sentence("Terms", "At most 12 of ( and ? are open at once");
        checkWorth("(".repeat(12) + "5" + ")".repeat(12), 5);
        checkFault("(".repeat(13) + "5" + ")".repeat(13), 12);
        checkFault("(".repeat(160), 12);
        checkFault("(".repeat(12) + "5+(", 14);
        checkFault("(".repeat(12), 12);
        checkFault("(".repeat(12) + ")", 12);
        // With 12 open a number or a name may stand there still.
        checkWorth("(".repeat(12) + "5+s<6" + ")".repeat(12), 0);
    }

    private static void openQuestions() {
        CHECK.sentence("Terms", "(a ? up to the end of the E behind its : )");
        // Within the first E of each ?.
        checkWorth("1?".repeat(12) + "7" + ":8".repeat(12), 7);
        checkFault("1?".repeat(13) + "7" + ":8".repeat(13), 25);
        // Within the E behind each :.
        checkWorth("0?7:".repeat(12) + "8", 8);
        checkFault("0?7:".repeat(13) + "8", 49);
        // The first E is ended at its : but the ? is open on.
        checkWorth("0?7:".repeat(11) + "1?7:8", 7);
        checkFault("0?7:".repeat(11) + "1?6:(7", 4 * 11 + 4);
        checkFault("0?7:".repeat(11) + "1?6:7?", 4 * 11 + 5);
        checkFault("0?7:".repeat(11) + "1?(7", 4 * 11 + 2);
        checkFault("0?7:".repeat(11) + "1?7?", 4 * 11 + 3);
    }

    private static void openOfBoth() {
        CHECK.sentence("Terms", "the 13th that would be open)");
        String seven = "(".repeat(7) + "1?".repeat(5);
        checkWorth(seven + "3" + ":4".repeat(5) + ")".repeat(7), 3);
        checkFault(seven + "(", 17);
        checkFault(seven + "1?", 18);
        String five = "1?".repeat(5) + "(".repeat(7);
        checkWorth(five + "3" + ")".repeat(7) + ":4".repeat(5), 3);
        checkFault(five + "(3", 17);
        checkFault(five + "3?", 18);
        checkWorth("(".repeat(11) + "0?3:4" + ")".repeat(11), 4);
        checkFault("(".repeat(12) + "0?3:4" + ")".repeat(12), 13);
        checkFault("(".repeat(11) + "0?(", 13);
        checkFault("(".repeat(11) + "0?3:(", 15);
        // The C ahead of a ? is not within it.
        checkWorth("(".repeat(12) + "1" + ")".repeat(12) + "?5:6", 5);
        checkWorth("0?1:".repeat(11) + "(2)?5:6", 5);
    }

    private static void closedAgain() {
        CHECK.sentence("Terms", "are open at once");
        // What is closed is open no more: 20 one behind another.
        checkWorth("(1)+".repeat(20) + "1", 21);
        checkWorth("(0?8:1)+".repeat(17) + "1", 18);
        checkWorth("((((((1?(((((2))))):(((((3)))))))))))", 2);
        checkWorth("1?(((((((((((1))))))))))):(((((((((((2)))))))))))", 1);
        checkFault("1?((((((((((((1))))))))))):2", 13);
        checkFault("1?1:((((((((((((1", 15);
    }

    private static void leastPlace() {
        CHECK.sentence("Terms", "the least place (from 0)");
        checkFault("1+)+*123456", 2);
        checkFault("x", 0);
        checkFault("12x4x", 2);
        checkFault("(1+2)*(3+4", 10);
        checkFault("(1+2)*(3+4]", 10);
        checkFault("1".repeat(160), 5);
        checkFault("x".repeat(160), 0);
        checkFault("1+".repeat(79) + "1x", 159);
        checkFault("1+".repeat(79) + "xx", 158);
    }

    private static void endsTooEarly() {
        CHECK.sentence("Terms", "the length, if it ends too early.");
        run().due("law(0, 0)", -100).due("law(2, 9999)", -100);
        String[] texts = {"(", "1+", "1-", "1*", "1/", "1%", "1<", "1=", "1>", "1?", "1?2", "1?2:", "(1", "((1)", "1?2?3:4",
            "1?(2", "y+", "(y", "1?2:3+", "12345+", "1?12345", "(((((((((((("};
        for (String text : texts) {
            checkFault(text, text.length());
        }
        checkFault("1+".repeat(80), 160);
        checkFault("(" + "1+".repeat(79) + "1", 160);
    }

    private static void longTexts() {
        CHECK.sentence("Terms", "THE TAPE has at most 160 bytes.");
        checkWorth("1+".repeat(79) + "10", 89);
        checkWorth("y+".repeat(79) + "10", 10);
        checkWorth("2*".repeat(20) + "0+" + "1+".repeat(58) + "30", 88);
        checkWorth("0?1:".repeat(12) + "1+".repeat(55) + "10", 65);
        run().tape("s+".repeat(79) + "10").due("law(0, 0)", 0).due("says(0, 0, 0, 0, 0)", 79010);
        // As long ones one behind another, and behind one with a fault.
        Run run = run();
        for (int i = 0; i < 8; i++) {
            run.tape("1+".repeat(79) + "1" + i).due("law(0, 0)", i).due("says(" + i + ", 0, 0, 0, 0)", 89 + i);
            run.tape("(9+").due("law(0, 0)", -103).due("says(0, 0, 0, 0, 0)", 89);
        }
    }

    private static void wrapping() {
        CHECK.sentence("Terms", "Ints that wrap");
        checkWorth("99999*99999", 1409865409);
        checkWorth("65535*32768+32767", MAX);
        checkWorth("65535*32768+32767+1", MIN);
        checkWorth("65536*32768", MIN);
        checkWorth("65536*32768-1", MAX);
        checkWorth("0-65536*32768", MIN);
        checkWorth("65536*65536", 0);
        checkWorth("65536*32768*(0-1)", MIN);
        checkWorth("65536*32768<0", 1);
        checkWorth("65536*65536?1:2", 2);
        run().tape("y*99999*99999").due("law(0, 0)", 0).due("says(0, 99999, 0, 0, 0)", 99999 * 1409865409);
    }

    private static void dividing() {
        CHECK.sentence("Terms", "/ and % towards 0, by 0 they give 0");
        checkWorth("7/2", 3);
        checkWorth("(0-7)/2", -3);
        checkWorth("7/(0-2)", -3);
        checkWorth("(0-7)/(0-2)", 3);
        checkWorth("7%4", 3);
        checkWorth("(0-7)%4", -3);
        checkWorth("7%(0-4)", 3);
        checkWorth("(0-7)%(0-4)", -3);
        checkWorth("(0-1)/2", 0);
        checkWorth("7/0", 0);
        checkWorth("7%0", 0);
        checkWorth("0/0", 0);
        checkWorth("0%0", 0);
        checkWorth("(0-7)/0", 0);
        checkWorth("(0-7)%0", 0);
        checkWorth("7/(3-3)+1", 1);
        checkWorth("65536*32768/(0-1)", MIN);
        checkWorth("65536*32768%(0-1)", 0);
        checkWorth("7/1", 7);
        checkWorth("7%1", 0);
        checkWorth("7/7", 1);
        checkWorth("7/8", 0);
        checkWorth("7%8", 7);
    }

    private static void comparing() {
        CHECK.sentence("Terms", "< = > give 1, 0");
        int[][] pairs = {{1, 2, 1, 0, 0}, {2, 2, 0, 1, 0}, {3, 2, 0, 0, 1}, {0, 0, 0, 1, 0}};
        for (int[] pair : pairs) {
            checkWorth(pair[0] + "<" + pair[1], pair[2]);
            checkWorth(pair[0] + "=" + pair[1], pair[3]);
            checkWorth(pair[0] + ">" + pair[1], pair[4]);
        }
        checkWorth("0-1<0", 1);
        checkWorth("0>0-1", 1);
        checkWorth("0-1=0-1", 1);
        checkWorth("65536*32768<65536*32768-1", 1);
        checkWorth("65536*32768>65536*32768-1", 0);
    }

    private static void choosing() {
        CHECK.sentence("Terms", "of ? just the one E is worked out that the C (not 0: the first) says.");
        checkWorth("0?5:6", 6);
        checkWorth("1?5:6", 5);
        checkWorth("2?5:6", 5);
        checkWorth("(0-1)?5:6", 5);
        checkWorth("256?5:6", 5);
        checkWorth("65536*32768?5:6", 5);
        checkWorth("1=1?5:6", 5);
        checkWorth("1=2?5:6", 6);
        checkWorth("0?1/0:6", 6);
        checkWorth("(1?5:6)+(0?50:60)", 65);
        checkWorth("100+(0?1:2?3:4)*10", 130);
    }

    private static void inForceNumbers() {
        CHECK.sentence("Promise 18", "The LAW of a KIND in force on a DAY AS KNOWN on DAY k (0 .. 9999 each); -9: none. NONE.");
        Run run = run();
        for (int law = 0; law < 2; law++) {
            for (int wrong : new int[] {-1, 3, MIN, MAX}) {
                run.refuses("inForce(" + wrong + ", 0, 0)", -1);
            }
            for (int wrong : new int[] {-1, 10000, MIN, MAX}) {
                run.refuses("inForce(0, " + wrong + ", 0)", -1).refuses("inForce(0, 0, " + wrong + ")", -1);
            }
            int due = law == 0 ? -9 : 0;
            run.due("inForce(0, 0, 0)", due).due("inForce(0, 9999, 9999)", due).due("inForce(0, 0, 9999)", due);
            run.due("inForce(0, 9999, 0)", due).due("inForce(1, 0, 0)", -9).due("inForce(2, 9999, 9999)", -9);
            run.law(0, "1");
        }
    }

    private static void inForceFrom() {
        CHECK.sentence("Terms", "and are in force from that DAY or an earlier one, the one made last.");
        Run run = run().tape("1").make("law(0, 5)").due("inForce(0, 4, 0)", -9).due("inForce(0, 5, 0)", 0);
        run.due("inForce(0, 6, 0)", 0).due("inForce(0, 9999, 0)", 0).due("inForce(1, 5, 0)", -9);
        // The one made last is in force, not the one that is in force from the latest day.
        run.tape("2").make("law(0, 3)").due("inForce(0, 2, 0)", -9).due("inForce(0, 3, 0)", 1).due("inForce(0, 5, 0)", 1);
        run.tape("3").make("law(0, 7)").due("inForce(0, 6, 0)", 1).due("inForce(0, 7, 0)", 2).tape("4").make("law(0, 7)");
        run.due("inForce(0, 7, 0)", 3).due("inForce(0, 6, 0)", 1).tape("5").make("law(1, 7)", "count(4)");
        run.due("inForce(0, 7, 0)", 3).due("inForce(1, 7, 0)", 4).due("inForce(1, 6, 0)", -9).due("inForce(2, 7, 0)", -9);
    }

    private static void inForceAsKnown() {
        CHECK.sentence("Terms", "in force of a KIND on a DAY AS KNOWN on DAY k: of those of this KIND that were made on DAY k or "
            + "ahead");
        Run run = run().passTo(2 * DAY - 1).law(2, "1").make("minutes(1)").law(2, "2").passTo(4 * DAY).law(2, "3");
        run.due("inForce(2, 9, 0)", -9).due("inForce(2, 9, 1)", 0).due("inForce(2, 9, 2)", 1).due("inForce(2, 9, 3)", 1);
        run.due("inForce(2, 9, 4)", 2).due("inForce(2, 0, 4)", 2).due("inForce(2, 0, 0)", -9).due("inForce(2, 0, 9999)", 2);
        run.due("inForce(0, 9, 9)", -9).due("inForce(1, 9, 9)", -9);
    }

    private static void saysNumbers() {
        CHECK.sentence("Promise 19", "NO_VALUE: a number is not as said (yards 0 .. 99999, waiting 0 .. 240).");
        Run run = run().law(0, "y").law(2, "w").due("says(0, 0, 0, 0, 0)", 0).due("says(0, 99999, 0, 0, 0)", 99999);
        run.refuses("says(0, -1, 0, 0, 0)", NO_VALUE).refuses("says(0, 100000, 0, 0, 0)", NO_VALUE);
        run.refuses("says(0, " + MIN + ", 0, 0, 0)", NO_VALUE).refuses("says(0, " + MAX + ", 0, 0, 0)", NO_VALUE);
        run.due("says(1, 0, 0, 0, 0)", 0).due("says(1, 0, 240, 0, 0)", 240).refuses("says(1, 0, -1, 0, 0)", NO_VALUE);
        run.refuses("says(1, 0, 241, 0, 0)", NO_VALUE).refuses("says(1, 0, " + MIN + ", 0, 0)", NO_VALUE);
        run.refuses("says(1, 0, " + MAX + ", 0, 0)", NO_VALUE).refuses("says(-1, 0, 0, 0, 0)", NO_VALUE);
        run.refuses("says(2, 0, 0, 0, 0)", NO_VALUE).refuses("says(40, 0, 0, 0, 0)", NO_VALUE);
        run.refuses("says(" + MIN + ", 0, 0, 0, 0)", NO_VALUE).refuses("says(" + MAX + ", 0, 0, 0, 0)", NO_VALUE);
    }

    private static void saysWhat() {
        CHECK.sentence("Promise 19", "What a LAW gives: what: 1000 times persons (0 .. 9), 100 times the WEEKDAY (0 .. 6), and "
            + "the hour (0 .. 23)");
        Run run = run().law(1, "p*1000+d*100+h");
        for (int persons = 0; persons <= 9; persons += 9) {
            for (int weekday = 0; weekday <= 6; weekday += 3) {
                int what = 1000 * persons + 100 * weekday;
                run.due("says(0, 0, 0, " + what + ", 0)", what).due("says(0, 0, 0, " + (what + 23) + ", 0)", what + 23);
                run.refuses("says(0, 0, 0, " + (what + 24) + ", 0)", NO_VALUE);
                run.refuses("says(0, 0, 0, " + (what + 99) + ", 0)", NO_VALUE);
            }
            for (int weekday = 7; weekday <= 9; weekday++) {
                run.refuses("says(0, 0, 0, " + (1000 * persons + 100 * weekday) + ", 0)", NO_VALUE);
            }
        }
        for (int wrong : new int[] {-1, -23, -100, -1000, 10000, 10123, 100000, MIN, MAX}) {
            run.refuses("says(0, 0, 0, " + wrong + ", 0)", NO_VALUE);
        }
    }

    private static void saysBad() {
        CHECK.sentence("Promise 19", "bad: 10 times the number of BAD STREETS, and n (1, 0); STRENGTH 1000.");
        Run run = run().law(2, "b*10+n").due("says(0, 0, 0, 0, 0)", 0).due("says(0, 0, 0, 0, 1)", 1);
        for (int n = 2; n <= 9; n++) {
            run.refuses("says(0, 0, 0, 0, " + n + ")", NO_VALUE).refuses("says(0, 0, 0, 0, " + (230 + n) + ")", NO_VALUE);
        }
        run.due("says(0, 0, 0, 0, 10)", 10).due("says(0, 0, 0, 0, 231)", 231).due("says(0, 0, 0, 0, 2147483641)", 2147483641);
        run.due("says(0, 0, 0, 0, 2147483640)", 2147483640).refuses("says(0, 0, 0, 0, " + MAX + ")", NO_VALUE);
        run.refuses("says(0, 0, 0, 0, -1)", NO_VALUE).refuses("says(0, 0, 0, 0, -10)", NO_VALUE);
        run.refuses("says(0, 0, 0, 0, " + MIN + ")", NO_VALUE).law(2, "s").due("says(1, 0, 0, 0, 0)", 1000);
        // A law may give less than 0 or more than a fare, and NO_VALUE itself.
        run.law(0, "0-9").due("says(2, 0, 0, 0, 0)", -9).law(0, "y*1000").due("says(3, 99999, 0, 0, 0)", 99999000);
        run.law(0, "0-20000*(99999+1)").due("says(4, 0, 0, 0, 0)", NO_VALUE);
    }

    private static void saysNames() {
        CHECK.sentence("Terms", "NAMES: y YARDS of the trip, t its TIME (of these YARDS, and minutes of waiting), w minutes of "
            + "waiting, n 1 if it begins at NIGHT, else 0, p persons, b BAD STREETS on it, d the WEEKDAY, h the hour of the DAY "
            + "(0 .. 23), s the COACH's STRENGTH (when it was called).");
        Run run = run();
        for (char name : "ytwnpbdhs".toCharArray()) {
            run.law(0, "" + name);
        }
        int[] values = {1100, 17, 7, 1, 4, 5, 6, 23, 1000};
        int[] zeros = {0, 0, 0, 0, 0, 0, 0, 0, 1000};
        for (int i = 0; i < values.length; i++) {
            run.due("says(" + i + ", 1100, 7, 4623, 51)", values[i]).due("says(" + i + ", 0, 0, 0, 0)", zeros[i]);
        }
        int[] yards = {0, 1, 110, 111, 220, 221, 99990, 99991, 99999};
        int[] times = {0, 1, 1, 2, 2, 3, 909, 910, 910};
        for (int i = 0; i < yards.length; i++) {
            run.due("says(1, " + yards[i] + ", 0, 0, 0)", times[i]);
            run.due("says(1, " + yards[i] + ", 240, 0, 0)", times[i] + 240);
        }
    }
}
