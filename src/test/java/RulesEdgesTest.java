/** The edges of RULES: their texts and FAULTS, whether CLAUSES hold, what is in FORCE: promises 12 to 14. */
public final class RulesEdgesTest extends Sentences {
    private static final String SIXTEEN = "s;s;s;s;s;s;s;s;s;s;s;s;s;s;s;s";
    private static final String DIGITS = "0123456789";
    private static final String OPERATIONS = "+-*/%";
    private static final String LETTERS = "vbmncd";
    private static final String TERM_STARTS = "[" + DIGITS + LETTERS;
    private static final String PIECE_STARTS = "!(" + TERM_STARTS;

    public static void main(String[] args) {
        run(RulesEdgesTest.class);
    }

    // ------------------------------------------------------------------ promise 12: rules, its arguments

    @Promise(of = 12, says = "for a COMPANY (NONE: all): no such ones")
    void rulesOfNoCompany() {
        due(law(0, 0, 0, "s"), NONE);
        company(1, 0);
        due(law(1, 0, 0, "s"), NONE);
        due(law(-2, 0, 0, "s"), NONE);
        due(law(MOST, 0, 0, "s"), NONE);
        due(law(LEAST, 0, 0, "s"), NONE);
        due(count(7), 20);
        due(law(NONE, 0, 0, "s"), 0);
        due(law(0, 0, 0, "s"), 1);
    }

    @Promise(of = 12, says = "in FORCE from a DAY to a DAY: the least and the greatest one")
    void rulesOfDays() {
        due(law(NONE, -1, 0, "s"), NONE);
        due(law(NONE, 0, 4000, "s"), NONE);
        due(law(NONE, 4000, 4000, "s"), NONE);
        due(law(NONE, -1, -1, "s"), NONE);
        due(law(NONE, LEAST, MOST, "s"), NONE);
        due(law(NONE, MOST, MOST, "s"), NONE);
        due(law(NONE, LEAST, 0, "s"), NONE);
        due(law(NONE, 0, MOST, "s"), NONE);
        due(count(7), 20);
        due(law(NONE, 0, LAST_DAY, "s"), 0);
        due(law(NONE, 0, 0, "s"), 1);
        due(law(NONE, LAST_DAY, LAST_DAY, "s"), 2);
    }

    @Promise(of = 12, says = "from a DAY to the same or a later one (else NONE)")
    void rulesToTheSameOrLater() {
        due(law(NONE, 5, 4, "s"), NONE);
        due(law(NONE, 1, 0, "s"), NONE);
        due(law(NONE, LAST_DAY, LAST_DAY - 1, "s"), NONE);
        due(count(7), 20);
        due(count(5), 0);
        due(law(NONE, 5, 5, "s"), 0);
        due(law(NONE, 5, 6, "s"), 1);
    }

    @Promise(of = 12, says = "days that are past may be told, too")
    void rulesOfThePast() {
        verse(0, 0);
        now(9);
        due(law(NONE, 3, 4, "v0.7"), 0);
        due(asks(0, 4, 0), 7);
        due(asks(0, 9, 0), 50);
    }

    @Promise(of = 12, says = "the first n bytes of the tape (1 to 160)")
    void rulesOfOneTo160() {
        verse(0, 0);
        String text = "s(" + times(39, "v=0&") + "1)";
        due(text.length(), 160);
        lay("s");
        due(rules(NONE, 0, 0, 0), NONE);
        due(rules(NONE, 0, 0, -1), NONE);
        due(rules(NONE, 0, 0, LEAST), NONE);
        due(rules(NONE, 0, 0, MOST), NONE);
        due(rules(NONE, 0, 0, 1), 0);
        text = "s(" + times(38, "v=0&") + "v+1=1)";
        due(text.length(), 160);
        due(law(text), 1);
        due(holds(1, 0, 0, 0), 1);
        lay(text + ";s");
        due(rules(NONE, 0, 0, 161), NONE);
        due(rules(NONE, 0, 0, 162), NONE);
        due(count(7), 180);
        due(rules(NONE, 0, 0, 160), 2);
        due(holds(2, 1, 0, 0), NONE);
    }

    @Promise(of = 12, says = "it has not so many (the tape stays)")
    void rulesOfTooFew() {
        due(rules(NONE, 0, 0, 1), NONE);
        lay("s;s;s;s;s;s;s;s;s;s;");
        due(rules(NONE, 0, 0, 21), NONE);
        due(rules(NONE, 0, 0, 160), NONE);
        due(count(7), 20);
        due(rules(NONE, 0, 0, 20), -1020);
        lay("s;s;s;s;s;s;s;s;s;s;s");
        due(rules(NONE, 0, 0, 41), NONE);
        due(rules(NONE, 0, 0, 21), 0);
    }

    @Promise(of = 12, says = "empty then")
    void rulesEmptyAll() {
        for (int n = 0; n < 9; n++) {
            lay("s");
            feed(0, 0, 0, 0, 0);
            due(rules(NONE, 0, 0, 1), n);
            due(count(7), 0);
        }
    }

    @Promise(of = 12, says = "their number; 20 are there: RULES 0 to 19")
    void rulesTwenty() {
        verse(0, 0);
        for (int i = 0; i < 20; i++) {
            due(holds(i, 0, 0, 0), NONE);
            due(law(NONE, i, i, "v0." + i), i);
        }
        due(law("s"), NONE);
        due(count(7), 20);
        due(count(5), 20);
        due(holds(19, 0, 0, 0), 1);
        due(holds(20, 0, 0, 0), NONE);
        for (int day = 0; day < 20; day++) {
            due(asks(0, day, 0), day);
        }
        due(asks(0, 20, 0), 50);
    }

    @Promise(of = 12, says = "a FAULT (if it is not refused): NONE is looked at first")
    void rulesRefusedBeforeFault() {
        company(1, 0);
        lay("q");
        due(rules(1, 0, 0, 1), NONE);
        due(rules(-2, 0, 0, 1), NONE);
        due(rules(NONE, -1, 0, 1), NONE);
        due(rules(NONE, 0, 4000, 1), NONE);
        due(rules(NONE, 1, 0, 1), NONE);
        due(rules(NONE, 0, 0, 0), NONE);
        due(rules(NONE, 0, 0, 21), NONE);
        due(rules(NONE, 0, 0, 161), NONE);
        due(count(7), 20);
        due(rules(NONE, 0, 0, 1), -1000);
        for (int i = 0; i < 20; i++) {
            law("s");
        }
        due(law("q"), NONE);
        due(count(7), 20);
    }

    @Promise(of = 12, says = "by a FAULT of RULES the tape is empty; nothing else is changed")
    void rulesWithAFault() {
        verse(0, 0);
        due(law("v0.7;o3"), 0);
        due(law("v0.8;o4;k210;s(1=1"), -1018);
        due(count(7), 0);
        due(count(5), 1);
        due(asks(0, 0, 0), 7);
        due(asks(0, 0, 2), 3);
        due(holds(1, 0, 0, 0), NONE);
        due(law("s(v=1);w1.0=1"), 1);
        due(holds(1, 0, 0, 0), 0);
        due(holds(1, 1, 0, 0), 1);
        due(holds(1, 2, 0, 0), NONE);
        due(asks(0, 0, 0), 7);
    }

    @Promise(of = 12, says = "a FAULT: no CLAUSE of such a text is in FORCE, of no kind, whatever RULES come next")
    void rulesWithAFaultLeaveNoClause() {
        newWords("in", "god");
        company(255, 1);
        scholar(0, true);
        for (int v = 0; v < 2; v++) {
            verse(0, 0);
            tokens(v, 0, 4, 8);
            tokens(v, 2, 4, 8);
        }
        due(law("v0.0;v1.0"), 0);
        for (int v = 0; v < 2; v++) {
            slots(0, v, v, 0);
            close(v);
            close(v);
        }
        option(1, 0);
        String wrong = ";w1.0=1;w1.0=0;s;v0.9;v1.9;o9;k210;w1.0=1;s;q";
        String[] next = {"o0", "o0;o0", "o0;o0;o0", "o0;o0;o0;o0", "o0;o0;o0;o0;o0", "o0;o0;o0;o0;o0;o0", "o0;o0;o0;o0;o0;o0;o0"};
        for (int i = 0; i < next.length; i++) {
            due(law("s" + wrong), -1000 - wrong.length());
            dueNothingInForce();
            due(law(next[i]), i + 1);
            dueNothingInForce();
        }
    }

    private void dueNothingInForce() {
        due(asks(0, 0, 0), 0);
        due(asks(0, 0, 1), 0);
        due(asks(0, 0, 2), 0);
        due(asks(0, 0, 3), 0);
        due(breaches(0), 0);
        due(quarrel(0, 0, 0), NONE);
        due(count(10), 0);
        due(cost(0), 1);
    }

    @Promise(of = 12, says = "CLAUSES, 16 at most")
    void rulesOfSixteenClauses() {
        verse(0, 0);
        due(law(SIXTEEN), 0);
        due(holds(0, 15, 0, 0), 1);
        due(holds(0, 16, 0, 0), NONE);
        due(law("v0.0;v0.1;v0.2;v0.3;v0.4;v0.5;v0.6;v0.7;v0.8;v0.9;v0.10;v0.11;v0.12;v0.13;v0.14;v0.15"), 1);
        due(asks(0, 0, 0), 15);
        due(law("s"), 2);
        due(holds(2, 0, 0, 0), 1);
        due(holds(2, 1, 0, 0), NONE);
    }

    // ------------------------------------------------------------------ FAULTS

    private void faultsBehind(String ahead, String mayStand, boolean mayEnd) {
        String due1 = String.valueOf(-1000 - ahead.length());
        if (!ahead.isEmpty()) {
            fresh();
            String told = String.valueOf(law(ahead));
            due(told.equals(due1) ? "fault at the end of " + ahead : "none", mayEnd ? "none" : "fault at the end of " + ahead);
        }
        for (int sign = 0; sign < 256; sign++) {
            if (callsLeft() < 9) {
                fresh();
            }
            int[] row = new int[ahead.length() + 1];
            System.arraycopy(bytesOf(ahead), 0, row, 0, ahead.length());
            row[ahead.length()] = sign;
            check(0);
            lay(row);
            String told = String.valueOf(rules(NONE, 0, 0, row.length));
            String fault = ahead + " and then " + sign + " is a fault";
            due(told.equals(due1) ? fault : "none", mayStand.indexOf(sign) >= 0 ? "none" : fault);
            fresh();
        }
    }

    @Promise(of = 12, says = "FAULT 1: what can't stand there (the end, too): ahead of a CLAUSE")
    void faultOneAheadOfAClause() {
        faultsBehind("", "wskvo", false);
        faultsBehind("s;", "wskvo", false);
        faultsBehind("k012;", "wskvo", false);
        faultsBehind("s", "(;", true);
    }

    @Promise(of = 12, says = "FAULT 1 in wN.F=T")
    void faultOneInW() {
        faultsBehind("w", DIGITS, false);
        faultsBehind("w3", DIGITS + ".", false);
        faultsBehind("w00039", DIGITS + ".", false);
        faultsBehind("w3.", "0123*", false);
        faultsBehind("w3.0", "=", false);
        faultsBehind("w3.*", "=", false);
        faultsBehind("w3.3=", DIGITS, false);
        faultsBehind("w3.3=7", DIGITS + "(;", true);
        faultsBehind("w3.*=79(", PIECE_STARTS, false);
        faultsBehind("w3.*=79(v=1)", ";", true);
    }

    @Promise(of = 12, says = "FAULT 1 in kDDD, vS.N and oN")
    void faultOneInKVO() {
        faultsBehind("k", "012", false);
        faultsBehind("k0", "012", false);
        faultsBehind("k21", "012", false);
        faultsBehind("k210", ";", true);
        faultsBehind("v", "01", false);
        faultsBehind("v0", ".", false);
        faultsBehind("v1", ".", false);
        faultsBehind("v1.", DIGITS, false);
        faultsBehind("v1.5", DIGITS + ";", true);
        faultsBehind("v1.100", DIGITS + ";", true);
        faultsBehind("o", DIGITS, false);
        faultsBehind("o0", DIGITS + ";", true);
        faultsBehind("o99999", DIGITS + ";", true);
    }

    @Promise(of = 12, says = "FAULT 1 in C, PARTS and PIECES")
    void faultOneInPieces() {
        faultsBehind("s(", PIECE_STARTS, false);
        faultsBehind("s(!", PIECE_STARTS, false);
        faultsBehind("s((", PIECE_STARTS, false);
        faultsBehind("s(v<b&", PIECE_STARTS, false);
        faultsBehind("s(v<b|", PIECE_STARTS, false);
        faultsBehind("s(!!(", PIECE_STARTS, false);
        faultsBehind("s(v<b)", ";", true);
        faultsBehind("s((v<b)", "&|)", false);
        faultsBehind("s(!(v<b)", "&|)", false);
        faultsBehind("s((v<b))", ";", true);
    }

    @Promise(of = 12, says = "FAULT 1 in E, TERMS and FACTORS")
    void faultOneInSums() {
        for (String letter : LETTERS.split("")) {
            faultsBehind("s(" + letter, OPERATIONS + "<>=", false);
        }
        faultsBehind("s(12", DIGITS + OPERATIONS + "<>=", false);
        faultsBehind("s(12345", DIGITS + OPERATIONS + "<>=", false);
        faultsBehind("s([", TERM_STARTS, false);
        faultsBehind("s([v", OPERATIONS + "]", false);
        faultsBehind("s([1", DIGITS + OPERATIONS + "]", false);
        faultsBehind("s([[v]", OPERATIONS + "]", false);
        faultsBehind("s([v]", OPERATIONS + "<>=", false);
        for (String sign : OPERATIONS.split("")) {
            faultsBehind("s(v" + sign, TERM_STARTS, false);
        }
        for (String sign : "<>=".split("")) {
            faultsBehind("s(v" + sign, TERM_STARTS, false);
        }
        faultsBehind("s(v<b", OPERATIONS + "&|)", false);
        faultsBehind("s(v<1", DIGITS + OPERATIONS + "&|)", false);
        faultsBehind("s(v<[v]", OPERATIONS + "&|)", false);
        faultsBehind("s(v<b+1", DIGITS + OPERATIONS + "&|)", false);
        faultsBehind("s(!v<b", OPERATIONS + "&|)", false);
    }

    @Promise(of = 12, says = "FAULT 1: the end, at the 160th place, and the last byte, at the 159th")
    void faultOneAtTheLastPlace() {
        String ahead = "s(" + times(39, "v=0&");
        due(ahead.length(), 158);
        due(law(ahead + "v="), -1160);
        due(law(ahead + "v)"), -1159);
        due(law(ahead + "v "), -1159);
        due(law(ahead + "v=1)"), NONE);
        due(law("s(" + times(38, "v=0&") + "v=0+0)"), 0);
    }

    @Promise(of = 12, says = "the end is behind n bytes, whatever the tape has there")
    void faultOneAtTheEndOfN() {
        lay("s(v=1)");
        due(rules(NONE, 0, 0, 5), -1005);
        lay("k012");
        due(rules(NONE, 0, 0, 3), -1003);
        lay("w1.0=1");
        due(rules(NONE, 0, 0, 5), -1005);
        lay("o1234");
        due(rules(NONE, 0, 0, 3), 0);
        verse(0, 0);
        due(asks(0, 0, 2), 12);
    }

    @Promise(of = 12, says = "FAULT 2: a sixth digit, at it")
    void faultTwo() {
        due(law("w000010.0=1"), -2006);
        due(law("w1.0=000001"), -2010);
        due(law("v0.000100"), -2008);
        due(law("o000001"), -2006);
        due(law("o9999999"), -2006);
        due(law("s(000001=1)"), -2007);
        due(law("s(v=123456)"), -2009);
        due(law("s(v=[1+1234567])"), -2012);
        due(law("w99999"), -3001);
        due(law("w999999"), -2006);
        due(law("v1.999990"), -2008);
    }

    @Promise(of = 12, says = "Numbers have one to five digits")
    void numbersOfOneToFiveDigits() {
        verse(0, 0);
        due(law("w00039.3=00079;v0.00100;o99999;s(00001=1&99999>99998)"), 0);
        due(asks(0, 0, 0), 100);
        due(asks(0, 0, 2), 99999);
        due(holds(0, 3, 0, 0), 1);
    }

    @Promise(of = 12, says = "FAULT 3: a number that it can't be, at its first digit")
    void faultThree() {
        due(law("w40.0=1"), -3001);
        due(law("w00040.0=1"), -3001);
        due(law("w99999.0=1"), -3001);
        due(law("w39.0=80"), -3006);
        due(law("w1.0=00080"), -3005);
        due(law("w1.0=99999"), -3005);
        due(law("v0.101"), -3003);
        due(law("v1.99999"), -3003);
        due(law("s;v1.00101;s"), -3005);
        due(law("w39.0=79;v0.100;v1.100;w0.0=0;v0.0"), 0);
    }

    @Promise(of = 12, says = "FAULT 3: asked when its digits end")
    void faultThreeWhenDigitsEnd() {
        due(law("w40"), -3001);
        due(law("w40x"), -3001);
        due(law("w40.x"), -3001);
        due(law("w1.0=80("), -3005);
        due(law("w1.0=80 "), -3005);
        due(law("v0.101x"), -3003);
        due(law("w400000"), -2006);
        due(law("w40000"), -3001);
    }

    @Promise(of = 12, says = "o and C know no greatest number but that of five digits")
    void numbersWithoutABound() {
        verse(0, 0);
        due(law("o4000;o3999"), 0);
        due(law("o40000"), 1);
        due(asks(0, 0, 2), 40000);
        due(law("s(99999>0)"), 2);
        due(holds(2, 0, 0, 0), 1);
    }

    @Promise(of = 12, says = "FAULT 4: a 17th CLAUSE, at its letter (if that can stand there)")
    void faultFour() {
        for (String letter : "wskvo".split("")) {
            due(law(SIXTEEN + ";" + letter), -4032);
        }
        due(law(SIXTEEN + ";w1.0=1"), -4032);
        due(law(SIXTEEN + ";q"), -1032);
        due(law(SIXTEEN + ";;"), -1032);
        due(law(SIXTEEN + ";"), -1032);
        due(law(SIXTEEN), 0);
        due(law(SIXTEEN.replace("s;s", "s;o1") + ";s"), -4000 - SIXTEEN.replace("s;s", "s;o1").length() - 1);
    }

    @Promise(of = 12, says = "FAULT 5: a seventh of ( [ ! that are open in one another, at it")
    void faultFive() {
        due(law("s((((((v=1))))))"), 0);
        due(law("s(((((((v=1)))))))"), -5007);
        due(law("s(!!!!!v=1)"), 1);
        due(law("s(!!!!!!v=1)"), -5007);
        due(law("s([[[[[v]]]]]=1)"), 2);
        due(law("s([[[[[[v]]]]]]=1)"), -5007);
        due(law("s(!(!([v]=1)))"), 3);
        due(law("s(!(!(![v]=1)))"), -5007);
        due(law("s(!(!((v=1))))"), 4);
        due(law("s(!(!((!v=1))))"), -5007);
        due(law("w1.0=1((((((v=1))))))"), 5);
        due(law("w1.0=1(((((((v=1)))))))"), -5012);
        due(law("s(v=[[[[[1]]]]])"), 6);
        due(law("s(v=[[[[[[1]]]]]])"), -5009);
        due(law("s(v=1+[[[[[[1]]]]]])"), -5011);
        due(law("s(((((((x"), -5007);
        due(law("s((((((("), -5007);
    }

    @Promise(of = 12, says = "FAULT 5: what is closed is not open any more")
    void faultFiveOfOpenOnesAlone() {
        due(law("s((v=1)&(v=1)&(v=1)&(v=1)&(v=1)&(v=1)&(v=1)|(v=1))"), 0);
        due(law("s(!v=1&!v=1&!v=1&!v=1&!v=1&!v=1&!v=1|!v=1)"), 1);
        due(law("s([v]+[v]+[v]+[v]*[v]*[v]*[v]=[v]-[v]-[v])"), 2);
        due(law("s(!(v=1)&!(v=1)&!(v=1)&!((((v=1)))))"), 3);
        due(law("s(!!!!!v=1&!!!!!v=1|((((([v]=1))))))"), -5025);
        due(law("s(!!!!!v=1&!!!!!v=1|((((v=[1])))))"), 4);
        due(law("s((((((v=1))))));s((((((v=1))))))"), 5);
    }

    @Promise(of = 12, says = "a seventh where it can't stand is FAULT 1")
    void faultOneAheadOfFive() {
        due(law("s((((((v("), -1008);
        due(law("s([[[[[("), -1007);
        due(law("s([[[[[!"), -1007);
        due(law("s(((((([v]["), -5007);
        due(law("s(((((v[1]"), -1007);
        due(law("s!"), -1001);
    }

    @Promise(of = 12, says = "FAULT 6: a digit of k that was there, at it")
    void faultSix() {
        due(law("k00"), -6002);
        due(law("k11"), -6002);
        due(law("k22"), -6002);
        due(law("k010"), -6003);
        due(law("k011"), -6003);
        due(law("k202"), -6003);
        due(law("k200"), -6003);
        due(law("s;k121"), -6005);
        due(law("k03"), -1002);
        due(law("k0"), -1002);
        due(law("k012"), 0);
    }

    @Promise(of = 12, says = "three digits 0 to 2, no two alike: each of the six orders")
    void ranksOfAllOrders() {
        String[] orders = {"012", "021", "102", "120", "201", "210"};
        for (int i = 0; i < orders.length; i++) {
            due(law("k" + orders[i]), i);
        }
    }

    @Promise(of = 12, says = "FAULTS, the first from the left")
    void faultsFirstFromTheLeft() {
        due(law("w40.9=80"), -3001);
        due(law("w1.9=80"), -1003);
        due(law("w1.3=80;k00"), -3005);
        due(law("k00;w40"), -6002);
        due(law("v2.101;q"), -1001);
        due(law("s(((((((v=123456"), -5007);
        due(law("s(123456=((((((("), -2007);
        due(law("o000000;q"), -2006);
        due(law("q;" + SIXTEEN), -1000);
        due(law(SIXTEEN + ";w40"), -4032);
    }

    @Promise(of = 12, says = "-1000 times its number, less its place: place 0, too")
    void faultAtPlaceZero() {
        due(law("q"), -1000);
        due(law("("), -1000);
        due(law(";"), -1000);
        due(law(" s"), -1000);
        lay(0);
        due(rules(NONE, 0, 0, 1), -1000);
        lay(255);
        due(rules(NONE, 0, 0, 1), -1000);
        lay('s' + 128);
        due(rules(NONE, 0, 0, 1), -1000);
    }

    // ------------------------------------------------------------------ promise 13: holds

    @Promise(of = 13, says = "NONE: no such ones: RULES i")
    void holdsOfNoRules() {
        verse(0, 0);
        due(holds(0, 0, 0, 0), NONE);
        law("s");
        due(holds(0, 0, 0, 0), 1);
        due(holds(1, 0, 0, 0), NONE);
        due(holds(-1, 0, 0, 0), NONE);
        due(holds(MOST, 0, 0, 0), NONE);
        due(holds(LEAST, 0, 0, 0), NONE);
    }

    @Promise(of = 13, says = "NONE: no such ones: CLAUSE j")
    void holdsOfNoClause() {
        verse(0, 0);
        law("s;s");
        law("s;s;s");
        due(holds(0, 0, 0, 0), 1);
        due(holds(0, 1, 0, 0), 1);
        due(holds(0, 2, 0, 0), NONE);
        due(holds(1, 2, 0, 0), 1);
        due(holds(1, 3, 0, 0), NONE);
        due(holds(0, -1, 0, 0), NONE);
        due(holds(1, -1, 0, 0), NONE);
        due(holds(0, 16, 0, 0), NONE);
        due(holds(0, MOST, 0, 0), NONE);
        due(holds(0, LEAST, 0, 0), NONE);
    }

    @Promise(of = 13, says = "NONE: no such ones: VERSE")
    void holdsOfNoVerse() {
        law("s");
        due(holds(0, 0, 0, 0), NONE);
        verse(0, 0);
        due(holds(0, 0, 0, 0), 1);
        due(holds(0, 0, 1, 0), NONE);
        due(holds(0, 0, -1, 0), NONE);
        due(holds(0, 0, MOST, 0), NONE);
        due(holds(0, 0, LEAST, 0), NONE);
    }

    @Promise(of = 13, says = "NONE: no such ones: DAY; any DAY from 0 to 3999")
    void holdsOnEachDay() {
        verse(0, 0);
        law("s(d=0|d=3999)");
        due(holds(0, 0, 0, 0), 1);
        due(holds(0, 0, 0, 1), 0);
        due(holds(0, 0, 0, 3998), 0);
        due(holds(0, 0, 0, 3999), 1);
        due(holds(0, 0, 0, 4000), NONE);
        due(holds(0, 0, 0, -1), NONE);
        due(holds(0, 0, 0, MOST), NONE);
        due(holds(0, 0, 0, LEAST), NONE);
    }

    @Promise(of = 13, says = "CLAUSES k v o: 1")
    void holdsOfOthers() {
        verse(0, 0);
        law(NONE, 5, 5, "k012;v0.1;v1.1;o3");
        for (int j = 0; j < 4; j++) {
            due(holds(0, j, 0, 0), 1);
            due(holds(0, j, 0, 5), 1);
        }
    }

    @Promise(of = 13, says = "a CLAUSE without C holds")
    void holdsWithoutC() {
        verse(0, 0);
        law("s(v=1);w1.0=1;s;w1.0=1(v=1)");
        due(holds(0, 0, 0, 0), 0);
        due(holds(0, 1, 0, 0), 1);
        due(holds(0, 2, 0, 0), 1);
        due(holds(0, 3, 0, 0), 0);
    }

    @Promise(of = 13, says = "if it were in FORCE")
    void holdsIfInForce() {
        company(1, 0);
        company(2, 0);
        verse(0, 0);
        law(1, 5, 6, "s;s(c=0);s(d=7)");
        due(holds(0, 0, 0, 0), 1);
        due(holds(0, 1, 0, 5), 1);
        due(holds(0, 2, 0, 7), 1);
        due(holds(0, 2, 0, 6), 0);
    }

    @Promise(of = 13, says = "v the VERSE: the first and the last one")
    void letterV() {
        for (int v = 0; v < 60; v++) {
            verse(0, 0);
        }
        law("s(v=0);s(v=59);s(v>58)");
        due(holds(0, 0, 0, 0), 1);
        due(holds(0, 0, 59, 0), 0);
        due(holds(0, 1, 59, 0), 1);
        due(holds(0, 2, 59, 0), 1);
        due(holds(0, 2, 58, 0), 0);
    }

    @Promise(of = 13, says = "b its BOOK, m its MEASURE: the least and the greatest")
    void lettersBAndM() {
        verse(0, 40);
        verse(7, 0);
        law("s(b=0&m=40);s(b=7&m=0)");
        due(holds(0, 0, 0, 0), 1);
        due(holds(0, 1, 0, 0), 0);
        due(holds(0, 0, 1, 0), 0);
        due(holds(0, 1, 1, 0), 1);
    }

    @Promise(of = 13, says = "n how many TOKENS THE SOURCE has on that DAY (0: none)")
    void letterN() {
        verse(0, 0);
        law("s(n=0);s(n=8);s(n=1)");
        due(holds(0, 0, 0, 0), 1);
        tokens(0, 2, 1, 2, 3, 4, 5, 6, 7, 8);
        due(holds(0, 0, 0, 0), 0);
        due(holds(0, 1, 0, 0), 1);
        tokens(0, 0, 1);
        due(holds(0, 2, 0, 0), 1);
        law(NONE, 3, 4, "k201");
        int[] want = {0, 0, 0, 1, 1, 0};
        for (int day = 0; day < want.length; day++) {
            due(holds(0, 1, 0, day), want[day]);
            due(holds(0, 2, 0, day), 1 - want[day]);
        }
    }

    @Promise(of = 13, says = "c THE COMPANY (-1: none)")
    void letterC() {
        verse(3, 0);
        law("s(c=0-1);s(c=5)");
        due(holds(0, 0, 0, 0), 1);
        for (int c = 0; c < 5; c++) {
            company(1, 0);
        }
        due(holds(0, 0, 0, 0), 1);
        company(8, 0);
        due(holds(0, 0, 0, 0), 0);
        due(holds(0, 1, 0, 0), 1);
    }

    @Promise(of = 13, says = "d the DAY")
    void letterD() {
        verse(0, 0);
        law("s(d=0);s(d=3999);s(d>7)");
        due(holds(0, 0, 0, 0), 1);
        due(holds(0, 1, 0, 3999), 1);
        due(holds(0, 2, 0, 7), 0);
        due(holds(0, 2, 0, 8), 1);
        now(9);
        due(holds(0, 2, 0, 7), 0);
    }

    @Promise(of = 13, says = "one of < > =: at the edge and beside it")
    void comparisons() {
        verse(0, 0);
        String[] texts = {"1<2", "2<2", "3<2", "1>2", "2>2", "3>2", "1=2", "2=2", "3=2"};
        int[] want = {1, 0, 0, 0, 0, 1, 0, 1, 0};
        for (int i = 0; i < texts.length; i++) {
            due(ask(texts[i]), want[i]);
        }
    }

    @Promise(of = 13, says = "TERMS with + or - between two; FACTORS with * / or % between two; from the left on")
    void reckoningFromTheLeft() {
        verse(0, 0);
        due(ask("10-3-2=5&10-3+2=9&10+3-2=11&10-[3-2]=9"), 1);
        due(ask("100/10/5=2&100/10*5=50&100*10/5=200&100/[10/5]=50"), 1);
        due(ask("17%7%2=1&17%[7%2]=0&2*7%4=2&7%4*2=6&7/2%2=1"), 1);
        due(ask("1+2*3=7&2*3+1=7&[1+2]*3=9&10-6/2=7&10-7%4=7"), 1);
        due(ask("[[1]]=1&[1+[2*[3+4]]]=15"), 1);
        due(ask("1=1+0*5&6=2*3"), 1);
    }

    @Promise(of = 13, says = "PARTS with a | between two, PIECES with an & between two, !PIECE, (C)")
    void reckoningOfPieces() {
        verse(0, 0);
        due(ask("v=0|v=0&v=1"), 1);
        due(ask("v=1&v=0|v=0"), 1);
        due(ask("(v=0|v=0)&v=1"), 0);
        due(ask("v=1&(v=0|v=0)"), 0);
        due(ask("!v=1&v=1"), 0);
        due(ask("!(v=1&v=1)"), 1);
        due(ask("!v=0|v=0"), 1);
        due(ask("!(v=0|v=0)"), 0);
        due(ask("!!v=0"), 1);
        due(ask("!!!v=0"), 0);
        due(ask("v=1|v=1|v=0"), 1);
        due(ask("v=0&v=0&v=1"), 0);
        due(ask("v=1|v=1|v=1"), 0);
        due(ask("v=0&v=0&v=0"), 1);
    }

    /** Any number of 32 bits as a FACTOR. */
    private static String told(int number) {
        int high = number >> 16;
        String text = high < 0 ? "[0-" + -high + "]" : String.valueOf(high);
        return "[" + text + "*65536+" + (number & 65535) + "]";
    }

    private void reckonAll(String sign, int a, int b, int want) {
        if (count(5) == 20) {
            fresh();
        }
        if (count(1) == 0) {
            verse(0, 0);
        }
        due(ask(told(a) + sign + told(b) + "=" + told(want)), 1);
    }

    @Promise(of = 13, says = "six of ( [ ! that are open in one another")
    void reckoningOfSixOpen() {
        verse(0, 0);
        String[] yes = {"(((((v=0)))))", "!!!!!v=1", "[[[[[v]]]]]=0", "0=[[[[[v]]]]]", "!(!([v]=0))", "!(!(!v=1))", "((((!v=1))))",
            "v=1|(((((v=1|v=0)))))", "(((((v=0)))))&!!!!!v=1&[[[[[v]+1]*2]+3]*4]=20", "!((((v=1&v=0))))", "!!!![v]=0",
            "!!!!(v=0)|v=1", "[[[[[7-v]-1]-1]-1]-1]=3"};
        for (String text : yes) {
            due(ask(text), 1);
        }
        fresh();
        verse(0, 0);
        String[] no = {"(((((v=1)))))", "!!!!!v=0", "[[[[[v]]]]]=1", "!(!([v]=1))", "!(!(!v=0))", "((((!v=0))))", "!((((v=0|v=1))))"};
        for (String text : no) {
            due(ask(text), 0);
        }
        due(ask("(((((1/v=1)))))"), 2);
        due(ask("[[[[[1/v]]]]]=1"), 2);
    }

    @Promise(of = 13, says = "All is reckoned with 32 bits, as the machine does")
    void thirtyTwoBitsOfAll() {
        int[] numbers = {LEAST, LEAST + 1, -99999, -65536, -46341, -3, -1, 0, 1, 2, 7, 32768, 46341, 65535, 99999, MOST - 1, MOST};
        for (int a : numbers) {
            for (int b : numbers) {
                reckonAll("+", a, b, a + b);
                reckonAll("-", a, b, a - b);
                reckonAll("*", a, b, a * b);
                if (b != 0) {
                    reckonAll("/", a, b, a / b);
                    reckonAll("%", a, b, a % b);
                }
            }
        }
    }

    @Promise(of = 13, says = "one of < > =: of all of the 32 bits")
    void thirtyTwoBitsOfComparisons() {
        int[] numbers = {LEAST, LEAST + 1, -1, 0, 1, MOST - 1, MOST};
        for (int a : numbers) {
            for (int b : numbers) {
                fresh();
                verse(0, 0);
                due(ask(told(a) + "<" + told(b)), a < b ? 1 : 0);
                due(ask(told(a) + ">" + told(b)), a > b ? 1 : 0);
                due(ask(told(a) + "=" + told(b)), a == b ? 1 : 0);
            }
        }
    }

    @Promise(of = 13, says = "All is reckoned with 32 bits, as the machine does: sums")
    void thirtyTwoBitsOfSums() {
        verse(0, 0);
        due(ask("32767*65536+65535>0"), 1);
        due(ask("32767*65536+65535+1<0"), 1);
        due(ask("32768*65536<0"), 1);
        due(ask("32768*65536-1>0"), 1);
        due(ask("32768*65536-1=32767*65536+65535"), 1);
        due(ask("32767*65536+65535+1=32768*65536"), 1);
        due(ask("0-32768*65536=32768*65536"), 1);
        due(ask("32768*65536+32768*65536=0"), 1);
        due(ask("32768*65536<32767*65536"), 1);
    }

    @Promise(of = 13, says = "All is reckoned with 32 bits, as the machine does: products")
    void thirtyTwoBitsOfProducts() {
        verse(0, 0);
        due(ask("46340*46340>0"), 1);
        due(ask("46341*46341<0"), 1);
        due(ask("65536*65536=0"), 1);
        due(ask("65536*65535=0-65536"), 1);
        due(ask("99999*99999=14098*50000*2+65409"), 1);
        int product = 99999 * 99999 * 99999 * 99999 * 99999;
        due(ask("99999*99999*99999*99999*99999=" + told(product)), 1);
        due(ask("[0-32768]*65536=32768*65536"), 1);
    }

    @Promise(of = 13, says = "All is reckoned with 32 bits, as the machine does: quotients and what is left")
    void thirtyTwoBitsOfQuotients() {
        verse(0, 0);
        due(ask("32768*65536/[0-1]=32768*65536"), 1);
        due(ask("32768*65536%[0-1]=0"), 1);
        due(ask("[0-7]/2=0-3&7/[0-2]=0-3&[0-7]/[0-2]=3"), 1);
        due(ask("[0-7]%2=0-1&7%[0-2]=1&[0-7]%[0-2]=0-1"), 1);
        due(ask("0/5=0&0%5=0&4/5=0&4%5=4&5/5=1&5%5=0&[0-4]/5=0"), 1);
        due(ask("32768*65536/65536=0-32768"), 1);
    }

    @Promise(of = 13, says = "what is divided by 0 is REFUSED: 2")
    void dividedByZero() {
        verse(0, 0);
        String[] texts = {"1/0=1", "1%0=1", "0/0=0", "0%0=0", "1=1/0", "1=1%v", "1/v=0", "1/[v*9]=1", "0*[1/v]=0", "1/v*0=0",
            "1+2/v>0", "[1/v]<2", "v=1/[1-1]", "7%[7%7]=0"};
        for (String text : texts) {
            due(ask(text), 2);
        }
        due(ask("v/1=0&v%1=0"), 1);
    }

    @Promise(of = 13, says = "REFUSED: on the DAY, of the VERSE, of which it is asked")
    void refusedThere() {
        verse(0, 0);
        verse(0, 0);
        law("s(1/d=1);s(1/v=1)");
        due(holds(0, 0, 0, 0), 2);
        due(holds(0, 0, 0, 1), 1);
        due(holds(0, 0, 0, 2), 0);
        due(holds(0, 1, 0, 0), 2);
        due(holds(0, 1, 1, 0), 1);
    }

    @Promise(of = 13, says = "Of a C as much is asked, from the left, as matters: what does not matter is not REFUSED")
    void notAsked() {
        verse(0, 0);
        String[] yes = {"v=0|1/v=1", "v=0|v=0&1/v=1", "v=0|1/v=1&1/v=1", "v=0|v=1|1/v=1", "v=1&1/v=1|v=0", "(v=0|1/v=1)&v=0",
            "(v=1&1/v=1)|v=0", "!(v=1&1/v=1)", "v=0|!(1/v=1)", "v=0|(1/v=1|1%v=1)", "v=0|!!1/v=1", "v=0&v=0|1/v=1",
            "v=1&1/v=1&1/v=1|v=0"};
        String[] no = {"v=1&1/v=1", "v=1&1/v=1|v=1", "v=1&(1/v=1|v=0)", "!(v=0|1/v=1)", "v=1&!1/v=1", "v=1&[1/v]=1",
            "(v=0|1/v=1)&v=1", "v=0&v=1&1/v=1", "v=1&(v=0|v=0)&1/v=1"};
        for (String text : yes) {
            due(ask(text), 1);
        }
        fresh();
        verse(0, 0);
        for (String text : no) {
            due(ask(text), 0);
        }
    }

    @Promise(of = 13, says = "Of a C as much is asked, from the left, as matters: what matters is REFUSED")
    void asked() {
        verse(0, 0);
        String[] texts = {"1/v=1|v=0", "1/v=1&v=1", "v=0&1/v=1", "v=1|1/v=1", "v=1|1/v=1|v=0", "v=0&v=1|1/v=1", "!1/v=1", "!(1/v=1)",
            "!(v=1|1/v=1)", "!(v=0&1/v=1)", "(v=1|1/v=1)|v=0", "v=0&(v=1|1/v=1)", "v=1|v=0&1/v=1", "v=1&1/v=1|1/v=1",
            "v=0&(v=1&1/v=1|1/v=1)"};
        for (String text : texts) {
            due(ask(text), 2);
        }
    }

    @Promise(of = 13, says = "what is divided by 0 is REFUSED, whatever stands behind it and is not asked any more")
    void refusedOnceAndForAll() {
        verse(0, 0);
        String[] texts = {"1/v=1&1/v=1", "1/v=0|1/v=0", "1%v=1&1/v=1|v=1&1%v=0", "!(1/v=0|1/v=0)", "(1/v=1&1/v=1)|v=0",
            "1/v+1/v=9&1/v=0", "v=0&1/v=1&1/v=1", "v=1|1/v=0|1/v=0"};
        for (String text : texts) {
            due(ask(text), 2);
        }
    }

    @Promise(of = 13, says = "both sides of a comparison are asked")
    void bothSidesAreAsked() {
        verse(0, 0);
        due(ask("1/v=1/v"), 2);
        due(ask("0=1/v"), 2);
        due(ask("1/v=0"), 2);
    }

    // ------------------------------------------------------------------ promise 14: asks

    @Promise(of = 14, says = "without one: COPIES rank 0, 1, 2; 50 hundredths are needed; 0 DAYS")
    void asksWithoutOne() {
        verse(0, 0);
        due(asks(0, 0, 0), 50);
        due(asks(0, 0, 1), 50);
        due(asks(0, 0, 2), 0);
        tokens(0, 2, 1, 2, 3);
        due(asks(0, 0, 3), 2);
        tokens(0, 1, 1, 2);
        due(asks(0, 0, 3), 1);
        tokens(0, 0, 1);
        due(asks(0, 0, 3), 0);
        due(asks(0, 0, 4), 1);
    }

    @Promise(of = 14, says = "THE SOURCE: none if none has")
    void asksWithoutSource() {
        verse(0, 0);
        due(asks(0, 0, 3), NONE);
        due(asks(0, 0, 4), 0);
        law("k210");
        due(asks(0, 0, 3), NONE);
        due(asks(0, 0, 4), 0);
        due(asks(0, 0, 5), NONE);
    }

    @Promise(of = 14, says = "kDDD: the row of the COPY that ranks first of those that have one")
    void asksOfEachRank() {
        String[] orders = {"012", "021", "102", "120", "201", "210"};
        for (String order : orders) {
            fresh();
            verse(0, 0);
            law("k" + order);
            for (int rank = 2; rank >= 0; rank--) {
                int copy = order.charAt(rank) - '0';
                tokens(0, copy, new int[copy + 1]);
                due(asks(0, 0, 3), copy);
                due(asks(0, 0, 4), copy + 1);
            }
        }
    }

    @Promise(of = 14, says = "in FORCE from a DAY to a DAY (both too)")
    void asksOnDays() {
        verse(0, 0);
        law(NONE, 5, 7, "v0.1;v1.2;o3;k210");
        tokens(0, 0, 4);
        tokens(0, 2, 4, 8);
        int[] days = {0, 4, 5, 6, 7, 8, LAST_DAY};
        for (int day : days) {
            boolean in = day >= 5 && day <= 7;
            due(asks(0, day, 0), in ? 1 : 50);
            due(asks(0, day, 1), in ? 2 : 50);
            due(asks(0, day, 2), in ? 3 : 0);
            due(asks(0, day, 3), in ? 2 : 0);
            due(asks(0, day, 4), in ? 2 : 1);
        }
        law(NONE, 0, 0, "v0.8");
        law(NONE, LAST_DAY, LAST_DAY, "v0.9");
        due(asks(0, 0, 0), 8);
        due(asks(0, 1, 0), 50);
        due(asks(0, LAST_DAY - 1, 0), 50);
        due(asks(0, LAST_DAY, 0), 9);
    }

    @Promise(of = 14, says = "that are for all, or for THE COMPANY of the VERSE")
    void asksOfCompanies() {
        company(1, 0);
        company(3, 0);
        verse(0, 0);
        verse(1, 0);
        verse(2, 0);
        law(NONE, 0, LAST_DAY, "v0.1;v1.1;o1");
        law(0, 0, LAST_DAY, "v0.2;v1.2");
        law(1, 0, LAST_DAY, "v0.3");
        due(asks(0, 0, 0), 2);
        due(asks(1, 0, 0), 3);
        due(asks(2, 0, 0), 1);
        due(asks(0, 0, 1), 2);
        due(asks(1, 0, 1), 1);
        due(asks(0, 0, 2), 1);
        due(asks(0, 0, 5), 0);
        due(asks(1, 0, 5), 1);
        due(asks(2, 0, 5), NONE);
    }

    @Promise(of = 14, says = "the last of the highest RULES counts")
    void asksTheLastOfTheHighest() {
        verse(0, 0);
        tokens(0, 0, 4);
        tokens(0, 1, 4);
        tokens(0, 2, 4);
        law("v0.1;v0.2;v1.3;v1.4;o5;o6;k210;k120");
        due(asks(0, 0, 0), 2);
        due(asks(0, 0, 1), 4);
        due(asks(0, 0, 2), 6);
        due(asks(0, 0, 3), 1);
        law("v1.7");
        due(asks(0, 0, 0), 2);
        due(asks(0, 0, 1), 7);
        law("v0.8;o9;k201;w1.0=1;s");
        due(asks(0, 0, 0), 8);
        due(asks(0, 0, 1), 7);
        due(asks(0, 0, 2), 9);
        due(asks(0, 0, 3), 2);
        law(NONE, 1, 1, "v0.11");
        due(asks(0, 0, 0), 8);
        due(asks(0, 1, 0), 11);
    }

    @Promise(of = 14, says = "RULES whose DAYS have it: the 16th CLAUSE of others that stand beside them does not count")
    void asksNotOfTheRulesBeside() {
        String[] last = {"v0.9", "v1.9", "o9", "k210"};
        for (String clause : last) {
            fresh();
            verse(0, 0);
            tokens(0, 0, 4);
            tokens(0, 2, 4);
            String text = times(15, "s(v=9);") + clause;
            law(NONE, 5, 5, text);
            law("s(v=9)");
            law(NONE, 5, 5, text);
            due(asks(0, 0, 0), 50);
            due(asks(0, 0, 1), 50);
            due(asks(0, 0, 2), 0);
            due(asks(0, 0, 3), 0);
        }
    }

    @Promise(of = 14, says = "N hundredths (0 to 100); N DAYS")
    void asksLeastAndGreatest() {
        verse(0, 0);
        law("v0.0;v1.100;o0");
        due(asks(0, 0, 0), 0);
        due(asks(0, 0, 1), 100);
        due(asks(0, 0, 2), 0);
        law("v0.100;v1.0;o99999");
        due(asks(0, 0, 0), 100);
        due(asks(0, 0, 1), 0);
        due(asks(0, 0, 2), 99999);
    }

    @Promise(of = 14, says = "NONE for others: VERSES, DAYS")
    void asksOfOthers() {
        due(asks(0, 0, 0), NONE);
        verse(0, 0);
        due(asks(1, 0, 0), NONE);
        due(asks(-1, 0, 0), NONE);
        due(asks(MOST, 0, 0), NONE);
        due(asks(LEAST, 0, 0), NONE);
        due(asks(0, -1, 0), NONE);
        due(asks(0, 4000, 0), NONE);
        due(asks(0, MOST, 0), NONE);
        due(asks(0, LEAST, 0), NONE);
        due(asks(0, LAST_DAY, 0), 50);
    }

    @Promise(of = 14, says = "NONE for others: what 0 to 5")
    void asksOtherThings() {
        verse(0, 0);
        company(1, 0);
        tokens(0, 0, 4);
        int[] want = {50, 50, 0, 0, 1, 0};
        for (int what = 0; what < 6; what++) {
            due(asks(0, 0, what), want[what]);
        }
        due(asks(0, 0, 6), NONE);
        due(asks(0, 0, -1), NONE);
        due(asks(0, 0, MOST), NONE);
        due(asks(0, 0, LEAST), NONE);
    }
}
