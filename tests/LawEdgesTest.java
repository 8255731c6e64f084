/** Promise 3 at its bounds: law, as it is told, with its FAULTS. LawRulesEdgesTest has what its RULES answer. */
public final class LawEdgesTest {
    private static final String GOOD = "x(1=1)";

    public static void main(String[] args) {
        Due due = new Due();
        lengths(due);
        theTape(due);
        theAnswer(due);
        theOneBefore(due);
        faultPlaces(due);
        rules(due);
        lawsInTurn(due);
        eachByte(due);
        eachByteInATest(due);
        blanks(due);
        ends(due);
        digits(due);
        openBrackets(due);
        openNots(due);
        openTogether(due);
        theFirstFromTheLeft(due);
        due.end();
    }

    private static String ones(int many) {
        return "+1".repeat(many);
    }

    private static String rules(int many) {
        return (GOOD + ";").repeat(many - 1) + GOOD;
    }

    private static void lengths(Due due) {
        due.sentence("promise 3: n 1 (no LAW is so short)");
        InsuredFlame x = new InsuredFlame();
        due.law(x, "x", -1001);
        due.law(x, ";", -1000);
        due.sentence("promise 3: the shortest LAW");
        due.law(x, GOOD, 1);
        due.sentence("promise 3: n up to 240");
        String longest = "s10" + ones(116) + "(1=1)";
        due.is("its length", longest.length(), 240);
        due.law(x, longest, 1);
        due.law(x, "s1" + ones(116) + "(1=1)", 1);
        due.sentence("promise 3: NONE: no such n (the tape stays)");
        Due.fill(x, 260, 'x');
        for (int n : new int[] {0, -1, -240, 241, 260, 261, Integer.MAX_VALUE, Integer.MIN_VALUE}) {
            due.is("law " + n, x.law(n), -1);
            due.is("count 7", x.count(7), 260);
        }
        due.is("the one before stays", x.count(6), 1);
        due.is("the bytes stay", x.law(2), -1001);
    }

    private static void theTape(Due due) {
        due.sentence("promise 3: NONE: it has not so many (the tape stays)");
        InsuredFlame x = new InsuredFlame();
        due.is("law 1 of none", x.law(1), -1);
        due.is("law 240 of none", x.law(240), -1);
        Due.fed(x, GOOD);
        due.is("law 21 of 20", x.law(21), -1);
        due.is("count 7", x.count(7), 20);
        due.is("law 6 of the same bytes", x.law(6), 1);
        Due.fill(x, 220, 'x');
        due.is("law 240 of 220", x.law(240), -1);
        due.is("count 7", x.count(7), 220);
        x.check(0);
        due.sentence("promise 3: as many as it has");
        due.law(x, "s1+1+1+1+1+1+1(1<10)", 1);
        due.sentence("promise 3: by the first n bytes of the tape");
        Due.fed(x, GOOD + ";" + GOOD);
        due.is("law 6", x.law(6), 1);
        Due.fed(x, GOOD + ";" + GOOD);
        due.is("law 13", x.law(13), 2);
        due.sentence("promise 3: empty then");
        due.is("count 7", x.count(7), 0);
        Due.fed(x, GOOD);
        Due.fill(x, 260, ';');
        due.is("law 6 of 260", x.law(6), 1);
        due.is("count 7", x.count(7), 0);
        due.sentence("promise 3: empty then, behind a FAULT, too");
        Due.fill(x, 260, 'x');
        due.is("law 2", x.law(2), -1001);
        due.is("count 7", x.count(7), 0);
    }

    private static void theAnswer(Due due) {
        due.sentence("promise 3: how many RULES");
        for (int many = 1; many <= 16; many++) {
            InsuredFlame x = new InsuredFlame();
            due.law(x, rules(many), many);
            due.is("count 6", x.count(6), many);
        }
    }

    private static void theOneBefore(Due due) {
        due.sentence("promise 3: a FAULT (the one before stays)");
        String[] wrongs = {"s0(1=1);b1(1=1);", "s0(1=1)x", "s000000(1=1)", "s0(1=1);" + rules(16), "s0(!!!!!!1=1)", "x", "s0(1=1);y"};
        for (String wrong : wrongs) {
            InsuredFlame x = Due.flame("##", "*0,0", "s10(1=1);b7(1=1)");
            due.is("law " + wrong, Due.law(x, wrong) < -999, true);
            due.is("count 6", x.count(6), 2);
            due.is("minutes", x.minutes(1), 2);
            due.is("as long as before", x.placeIs(1, 0, 2), 7);
        }
        due.sentence("promise 3: a FAULT where there was none before");
        InsuredFlame y = Due.flame("##", "*0,0", "");
        due.law(y, "s10(1=1);", -1009);
        due.is("count 6", y.count(6), 0);
        due.is("minutes", y.minutes(1), 1);
        due.sentence("promise 3: in place of the one before");
        InsuredFlame z = Due.flame("##", "*0,0", "s10(1=1);b7(1=1);x(1=1)");
        due.law(z, "b5(1=1)", 1);
        due.is("count 6", z.count(6), 1);
        due.is("no s any more", z.tried(1, 0), 1);
        due.is("no x any more", z.tried(1, 1), 0);
    }

    private static void faultPlaces(Due due) {
        due.sentence("promise 3: a FAULT: -1000 times its number, less its place (0 to 240)");
        InsuredFlame x = new InsuredFlame();
        due.law(x, "y", -1000);
        due.law(x, "s1" + ones(117) + "(1=1", -1240);
        due.law(x, "s10" + ones(115) + "+123456", -2239);
        due.law(x, "s1" + ones(115) + "+[[[[[[[", -5239);
        String sixteen = "s1" + ones(63) + "(1=1);" + rules(15);
        due.is("its length", sixteen.length(), 238);
        due.law(x, sixteen + ";x", -4239);
        due.law(x, sixteen + ";y", -1239);
        due.law(x, sixteen + ";", -1239);
        due.law(x, sixteen, 16);
    }

    private static void rules(Due due) {
        due.sentence("THE LAW: RULES (16 at most)");
        InsuredFlame x = new InsuredFlame();
        due.law(x, rules(16), 16);
        due.sentence("THE LAW, FAULT 4: a 17th RULE, at its letter, whatever stands behind it");
        int at = rules(16).length() + 1;
        for (String rule : new String[] {"x", "b", "s", GOOD, "s1(1=1)", "b[", "xx", "s999999", "x;", "b(((((((("}) {
            due.law(x, rules(16) + ";" + rule, -4000 - at);
        }
        due.sentence("THE LAW, FAULT 4: (if that can stand there), else FAULT 1");
        for (String rule : new String[] {"", ";", "y", "X", "(", "1", " x", "p", ")"}) {
            due.law(x, rules(16) + ";" + rule, -1000 - at);
        }
        for (int sign = 0; sign < 256; sign++) {
            int want = sign == 'b' || sign == 's' || sign == 'x' ? -4000 : -1000;
            due.is("a 17th RULE that begins with byte " + sign, Due.law(new InsuredFlame(), rules(16) + ";" + (char) sign), want - at);
        }
        due.sentence("THE LAW: a ; between two, none ahead, behind, or two of them");
        due.law(x, ";" + GOOD, -1000);
        due.law(x, GOOD + ";", -1007);
        due.law(x, GOOD + ";;" + GOOD, -1007);
        due.law(x, GOOD + GOOD, -1006);
        due.law(x, GOOD + "," + GOOD, -1006);
    }

    /** Long ones, and FAULTS between them: nothing of one is left in the next. */
    private static void lawsInTurn(Due due) {
        due.sentence("promise 3: in place of the one before, one LAW behind another");
        InsuredFlame x = Due.flame("##", "*0,0", "");
        x.keep();
        for (int b = 1; b <= 9; b++) {
            due.law(x, "s10(1=1);b" + b + "+0".repeat(100) + "(1=1)", 2);
            due.law(x, "s0" + ones(60) + "(1=1);", -1128);
            x.minutes(1);
            due.is("b " + b, x.placeIs(1, 0, 2), b);
            x.undo();
        }
    }

    /** What the LAW ahead + one byte answers for each byte: -1000 less the end if it can stand there. */
    private static void bytesBehind(Due due, String ahead, String canStand) {
        for (int sign = 0; sign < 256; sign++) {
            InsuredFlame x = new InsuredFlame();
            boolean can = canStand.indexOf(sign) >= 0;
            int place = ahead.length() + (can ? 1 : 0);
            due.is("law " + ahead + " and byte " + sign, Due.law(x, ahead + (char) sign), -1000 - place);
        }
    }

    private static void eachByte(Due due) {
        due.sentence("THE LAW, FAULT 1: a RULE is a letter b, s, x");
        bytesBehind(due, "", "bsx");
        bytesBehind(due, GOOD + ";", "bsx");
        due.sentence("THE LAW, FAULT 1: E behind b, s; a FACTOR is [E], a number or a letter");
        String factor = "[0123456789pmnvidgtw";
        bytesBehind(due, "s", factor);
        bytesBehind(due, "b", factor);
        bytesBehind(due, "s[", factor);
        for (String sign : new String[] {"+", "-", "*", "/", "%"}) {
            bytesBehind(due, "s1" + sign, factor);
        }
        due.sentence("THE LAW, FAULT 1: of x only (C)");
        bytesBehind(due, "x", "(");
        due.sentence("THE LAW, FAULT 1: behind a FACTOR of E + - * / % or (C)");
        bytesBehind(due, "sp", "+-*/%(");
        bytesBehind(due, "b[1]", "+-*/%(");
        bytesBehind(due, "s1", "+-*/%(0123456789");
        due.sentence("THE LAW, FAULT 1: behind a FACTOR of [E] + - * / % or ]");
        bytesBehind(due, "s[m", "+-*/%]");
        bytesBehind(due, "x([1", "+-*/%]0123456789");
        due.sentence("THE LAW, FAULT 1: behind (C) only a ;");
        bytesBehind(due, GOOD, ";");
        bytesBehind(due, "b1(1=1)", ";");
    }

    private static void eachByteInATest(Due due) {
        due.sentence("THE LAW, FAULT 1: a TEST is !TEST, (C) or E, one of < > =, and E");
        String factor = "[0123456789pmnvidgtw";
        for (String ahead : new String[] {"x(", "s1(", "x((", "x(!", "x(1=1&", "x(1=1|", "x((1=1)&"}) {
            bytesBehind(due, ahead, factor + "!(");
        }
        bytesBehind(due, "x(n", "+-*/%<>=");
        bytesBehind(due, "x(!1", "+-*/%<>=0123456789");
        for (String sign : new String[] {"<", ">", "="}) {
            bytesBehind(due, "x(1" + sign, factor);
        }
        due.sentence("THE LAW, FAULT 1: behind a TEST & | or )");
        bytesBehind(due, "x((n=n", "+-*/%&|)");
        bytesBehind(due, "x((n=1", "+-*/%&|)0123456789");
        bytesBehind(due, "x(((1=1)", "&|)");
        bytesBehind(due, "x((!(1=1)", "&|)");
    }

    private static void blanks(Due due) {
        due.sentence("THE LAW: no blanks");
        InsuredFlame x = new InsuredFlame();
        String law = "s1+[m](!1=1&(n<2));x(1=1)";
        due.law(x, law, 2);
        for (int at = 0; at <= law.length(); at++) {
            InsuredFlame y = new InsuredFlame();
            due.law(y, law.substring(0, at) + " " + law.substring(at), -1000 - at);
        }
    }

    private static void ends(Due due) {
        due.sentence("THE LAW, FAULT 1: what can't stand there (the end, too)");
        String law = "s1+[m](!1=1&(n<2));b2(1=1)";
        for (int n = 1; n < law.length(); n++) {
            InsuredFlame x = new InsuredFlame();
            Due.fed(x, law);
            boolean isWhole = law.startsWith(");", n - 1) && law.charAt(n - 2) == ')';
            due.is("law " + law.substring(0, n), x.law(n), isWhole ? 1 : -1000 - n);
        }
    }

    private static void digits(Due due) {
        due.sentence("THE LAW: a number of one to five digits");
        InsuredFlame x = new InsuredFlame();
        for (String number : new String[] {"0", "7", "10", "999", "1000", "99999", "00000", "00007"}) {
            due.law(x, "s" + number + "(" + number + "=" + number + ")", 1);
        }
        due.sentence("THE LAW, FAULT 2: a sixth digit, at it");
        due.law(x, "s123456(1=1)", -2006);
        due.law(x, "s000000(1=1)", -2006);
        due.law(x, "s1234567(1=1)", -2006);
        due.law(x, "b100000", -2006);
        due.law(x, "s99999+999999(1=1)", -2012);
        due.law(x, "s[999999](1=1)", -2007);
        due.law(x, "x(999999=1)", -2007);
        due.law(x, "x(1=999999)", -2009);
        due.law(x, "x(1=1&!(1<000001))", -2015);
        due.sentence("THE LAW, FAULT 2: five digits in each of two numbers are none");
        due.law(x, "s12345+67890*12345(12345=67890)", 1);
    }

    private static void openBrackets(Due due) {
        due.sentence("THE LAW, FAULT 5: a seventh ( that is open, at it (the ( of the RULE counts)");
        InsuredFlame x = new InsuredFlame();
        due.law(x, "x((((((1=1))))))", 1);
        due.law(x, "x(((((((1=1)))))))", -5007);
        due.law(x, "s1(((((((1=1)))))))", -5008);
        due.law(x, "x(((((((((", -5007);
        due.sentence("THE LAW, FAULT 5: a seventh [ that is open, at it (the E of a RULE stands ahead of its ()");
        due.law(x, "s[[[[[[1]]]]]](1=1)", 1);
        due.law(x, "s[[[[[[[1]]]]]]](1=1)", -5007);
        due.law(x, "b[[[[[[[", -5007);
        due.sentence("THE LAW, FAULT 5: in C the ( of the RULE is one of the six");
        due.law(x, "x([[[[[1]]]]]=1)", 1);
        due.law(x, "x([[[[[[1]]]]]]=1)", -5007);
        due.law(x, "x(1=[[[[[1]]]]])", 1);
        due.law(x, "x(1=[[[[[[1]]]]]])", -5009);
        due.sentence("THE LAW, FAULT 5: open in one another, not one behind the other");
        due.law(x, "s[[[[[[1]]]]]]+[[[[[[1]]]]]](((((((1=1)))))&(((((1=1))))))", -5034);
        due.law(x, "s[[[[[[1]]]]]]+[[[[[[1]]]]]]((((((1=1)))))&(((((1=1))))))", 1);
        due.law(x, "s[1]+[1]+[1]+[1]+[1]+[1]+[1]+[1]((1=1)&(1=1)&(1=1)&(1=1)&(1=1)&(1=1)&(1=1))", 1);
        due.law(x, rules(7), 7);
    }

    private static void openNots(Due due) {
        due.sentence("THE LAW, FAULT 5: a seventh that is open is a !, at it");
        InsuredFlame x = new InsuredFlame();
        due.law(x, "x(!!!!!1=1)", 1);
        due.law(x, "x(!!!!!!1=1)", -5007);
        due.law(x, "x(!!!!!!!!", -5007);
        due.sentence("THE LAW, FAULT 5: a ! is open till its TEST ends");
        due.law(x, "x(!!!!!1=1&!!!!!1=1)", 1);
        due.law(x, "x(!!!!!1=1|!!!!!1=1)", 1);
        due.law(x, "x(!!!!!1=1&[[[[[1]]]]]=1)", 1);
        due.law(x, "x(!!!!!1=1|(((((1=1))))))", 1);
        due.law(x, "x(!!!!![1]=1)", -5007);
        due.law(x, "x(!!!!!1=[1])", -5009);
        due.law(x, "x(!!!!!1=1+[1])", -5011);
        due.law(x, "x(!!!!1=1+[1])", 1);
        due.law(x, "x(!!!!!1=1&!!!!!!1=1)", -5016);
    }

    private static void openTogether(Due due) {
        due.sentence("THE LAW, FAULT 5: ( [ ! count together");
        InsuredFlame x = new InsuredFlame();
        due.law(x, "x(!(!(!1=1)))", 1);
        due.law(x, "x(!(!(!(1=1))))", -5007);
        due.law(x, "x(!(!(!!1=1)))", -5007);
        due.law(x, "x(!(!(![1]=1)))", -5007);
        due.law(x, "x(!(!([1]=1)))", 1);
        due.law(x, "x(!(!([[1]]=1)))", -5007);
        due.law(x, "x(!(!(1=1)&![1]=1)&!!!!!1=1)", 1);
        due.law(x, "x(!(!(1=1)&!![1]=1)&!!!!!1=1)", 1);
        due.law(x, "x(!(!(1=1)&!!![1]=1))", -5014);
        due.law(x, "x(!(!(1=1)&!![[1]]=1))", -5014);
        due.sentence("THE LAW: what can't stand there is FAULT 1, also where six are open");
        due.law(x, "s[[[[[[(", -1007);
        due.law(x, "s[[[[[[!", -1007);
        due.law(x, "x(((((()", -1007);
        due.law(x, "x(!!!!!)", -1007);
        due.law(x, "x(!!!!!1=(", -1009);
        due.law(x, "x(!!!!!1=!", -1009);
    }

    private static void theFirstFromTheLeft(Due due) {
        due.sentence("THE LAW: FAULTS, the first from the left");
        InsuredFlame x = new InsuredFlame();
        due.law(x, "s123456(((((((", -2006);
        due.law(x, "x(((((((123456", -5007);
        due.law(x, "y123456", -1000);
        due.law(x, "x(1=1)y;" + rules(17), -1006);
        due.law(x, "s1y123456", -1002);
        due.law(x, rules(16) + ";x(((((((", -4112);
        due.law(x, rules(15) + ";x(1=1);y", -1112);
    }
}
