/** Promise 3 at its bounds: what the RULES of THE LAW answer in a fire, and what they are asked with. */
public final class LawRulesEdgesTest {
    public static void main(String[] args) {
        Due due = new Due();
        boundsOfB(due);
        boundsOfS(due);
        theFirstThatHolds(due);
        goingOut(due);
        fromTheLeft(due);
        wrapsAround(due);
        divides(due);
        refusedAmounts(due);
        refusedConditions(due);
        asMuchAsMatters(due);
        conditions(due);
        thePlace(due);
        minutesYet(due);
        howManyBurn(due);
        valuesAndSums(due);
        waysAndWind(due);
        theMinute(due);
        theDraw(due);
        due.end();
    }

    /** The MINUTES a PLACE has yet that has just taken fire by RULES of b. */
    private static int burnsFor(String rules) {
        InsuredFlame x = Due.flame("##", "*0,0", "s10(1=1)" + (rules.isEmpty() ? "" : ";" + rules));
        x.minutes(1);
        return x.placeIs(1, 0, 2);
    }

    /** By how many of the DRAWS 0 to 9 it goes over. */
    private static int tenthsBy(String rules) {
        InsuredFlame x = Due.flame("##", "*0,0", rules);
        int tenths = 0;
        for (int draw = 0; draw < 10; draw++) {
            x.seed(Due.seedOf(draw));
            tenths += x.comes(1, 0, 1) == 1 ? 1 : 0;
        }
        return tenths;
    }

    private static boolean holds(String condition) {
        return burnsFor("b5(" + condition + ")") == 5;
    }

    private static void held(Due due, String... conditions) {
        for (String condition : conditions) {
            due.is(condition, holds(condition), true);
        }
    }

    private static void notHeld(Due due, String... conditions) {
        for (String condition : conditions) {
            due.is(condition, holds(condition), false);
        }
    }

    private static void boundsOfB(Due due) {
        due.sentence("THE LAW: b MINUTES that a PLACE burns (1 to 9)");
        for (int b = 1; b <= 9; b++) {
            due.is("b" + b, burnsFor("b" + b + "(1=1)"), b);
        }
        due.sentence("THE LAW: b beyond its bounds the bound");
        due.is("b0", burnsFor("b0(1=1)"), 1);
        due.is("b0-1", burnsFor("b0-1(1=1)"), 1);
        due.is("b10", burnsFor("b10(1=1)"), 9);
        due.is("b99999", burnsFor("b99999(1=1)"), 9);
        due.is("the greatest", burnsFor("b32768*65536-1(1=1)"), 9);
        due.is("the least", burnsFor("b32768*65536(1=1)"), 1);
        due.sentence("THE LAW: none: b 1");
        due.is("no b", burnsFor(""), 1);
        due.is("none that holds", burnsFor("b7(1=2);b8(2=1)"), 1);
    }

    private static void boundsOfS(Due due) {
        due.sentence("THE LAW: s tenths that fire goes over in a MINUTE (0 to 10), a DRAW below s");
        for (int s = 0; s <= 10; s++) {
            due.is("s" + s, tenthsBy("s" + s + "(1=1)"), s);
        }
        due.sentence("THE LAW: s beyond its bounds the bound");
        due.is("s0-1", tenthsBy("s0-1(1=1)"), 0);
        due.is("s11", tenthsBy("s11(1=1)"), 10);
        due.is("the greatest", tenthsBy("s32768*65536-1(1=1)"), 10);
        due.is("the least", tenthsBy("s32768*65536(1=1)"), 0);
        due.sentence("THE LAW: none: s 0");
        due.is("no LAW", tenthsBy(""), 0);
        due.is("no s", tenthsBy("b7(1=1);x(1=2)"), 0);
        due.is("none that holds", tenthsBy("s7(1=2);s8(2=1)"), 0);
    }

    private static void theFirstThatHolds(Due due) {
        due.sentence("THE LAW: of the first RULE of b, s whose C holds the E");
        due.is("the first", burnsFor("b3(1=1);b4(1=1)"), 3);
        due.is("the second", burnsFor("b3(1=2);b4(1=1);b5(1=1)"), 4);
        due.is("the last", burnsFor("b3(1=2);x(1=2);s3(1=1);b4(1=2);b5(1=1)"), 5);
        due.is("of s", tenthsBy("b9(1=1);s3(1=2);x(1=1);s4(1=1);s5(1=1)"), 4);
        due.sentence("THE LAW: the 16th RULE");
        due.is("of b", burnsFor("b9(1=2);".repeat(14) + "b6(1=1)"), 6);
        due.is("of s", tenthsBy("s9(1=2);".repeat(15) + "s6(1=1)"), 6);
    }

    private static int goesOutBy(String rules) {
        InsuredFlame x = Due.flame("#", "*0,0", rules);
        return x.tried(1, 1);
    }

    private static void goingOut(Due due) {
        due.sentence("THE LAW: x a PLACE goes out at once");
        due.is("x holds", goesOutBy("x(1=1)"), 1);
        due.is("x does not hold", goesOutBy("x(1=2)"), 0);
        due.sentence("THE LAW: of x any will do");
        due.is("the first", goesOutBy("x(1=1);x(1=2)"), 1);
        due.is("the last", goesOutBy("x(1=2);x(1=2);x(1=1)"), 1);
        due.is("the 16th", goesOutBy("x(1=2);".repeat(15) + "x(1=1)"), 1);
        due.is("one that is REFUSED", goesOutBy("x(1/0=0);x(1=1)"), 1);
        due.is("none", goesOutBy("x(1=2);x(1=2)"), 0);
        due.sentence("THE LAW: without an x in THE LAW none does by it");
        due.is("no LAW", goesOutBy(""), 0);
        due.is("other RULES", goesOutBy("b1(1=1);s10(1=1)"), 0);
    }

    private static void fromTheLeft(Due due) {
        due.sentence("THE LAW: TERMS with + or - between two, FACTORS with * / % between two, from the left on");
        due.is("9-3-2", burnsFor("b9-3-2(1=1)"), 4);
        due.is("9-3+2", burnsFor("b9-3+2(1=1)"), 8);
        due.is("100/5/4", burnsFor("b100/5/4(1=1)"), 5);
        due.is("7/2*2", burnsFor("b7/2*2(1=1)"), 6);
        due.is("17%10/2", burnsFor("b17%10/2(1=1)"), 3);
        due.is("7*3%5", burnsFor("b7*3%5(1=1)"), 1);
        due.is("9-2*3", burnsFor("b9-2*3(1=1)"), 3);
        due.is("2*3-9/2", burnsFor("b2*3-9/2(1=1)"), 2);
        due.is("[9-2]*1", burnsFor("b[9-2]*1(1=1)"), 7);
        due.is("9-[3-2]", burnsFor("b9-[3-2](1=1)"), 8);
        due.sentence("THE LAW: as many FACTORS wait as six brackets allow");
        due.is("in E", burnsFor("b0+1*[0+1*[0+1*[0+1*[0+1*[0+1*[0+1*7]]]]]](1=1)"), 7);
        held(due, "0+1*7=0+1*[0+1*[0+1*[0+1*[0+1*[0+1*7]]]]]");
    }

    private static void wrapsAround(Due due) {
        due.sentence("THE LAW: all is reckoned with 32 bits, as the machine does");
        held(due, "99999*99999+99999*99999<0", "0-99999*99999-99999*99999>0", "99999*99999/10000=14098*10+6", "65536*65536=0", "32768*65536<0");
        held(due, "32768*65536-1>0", "32767*65536+65535+1<0", "65536*65535<0", "65536*65536+7=7");
        due.sentence("THE LAW: the least number, by -1, as the machine does");
        held(due, "[32768*65536]/[0-1]<0", "[32768*65536]/[0-1]=32768*65536", "[32768*65536]%[0-1]=0", "0-[32768*65536]=32768*65536");
        due.sentence("THE LAW: bounds of < and > in 32 bits");
        held(due, "32768*65536<32768*65536-1", "32768*65536-1>32768*65536", "32768*65536<0", "0>32768*65536");
        notHeld(due, "32768*65536>32768*65536-1", "32768*65536=32768*65536-1", "1<1", "1>1", "0-1>0");
    }

    private static void divides(Due due) {
        due.sentence("THE LAW: / is rounded to 0, % has the sign of what is divided, as the machine does");
        held(due, "7/2=3", "[0-7]/2=0-3", "7/[0-2]=0-3", "[0-7]/[0-2]=3", "7%4=3", "[0-7]%4=0-3", "7%[0-4]=3", "[0-7]%[0-4]=0-3", "0/5=0", "0%5=0", "1/2=0", "1%1=0", "7/1=7", "7/7=1", "7/8=0", "7%8=7", "7%7=0");
    }

    private static void refusedAmounts(Due due) {
        due.sentence("THE LAW: what is divided by 0 is REFUSED: the E of it is 0");
        for (String e : new String[] {"5/0", "5%0", "5+1/0", "1/0+5", "5+[1%0]*0", "9/[3-3]", "9/w", "5+0/0"}) {
            due.is("b" + e, burnsFor("b" + e + "(1=1)"), 1);
            due.is("s" + e, tenthsBy("s" + e + "(1=1);s7(1=1)"), 0);
        }
        due.sentence("THE LAW: its RULE is still the first whose C holds");
        due.is("b", burnsFor("b5/0(1=1);b7(1=1)"), 1);
        due.sentence("THE LAW: an E that is not asked is not REFUSED");
        due.is("b", burnsFor("b5/0(1=2);b7(1=1)"), 7);
    }

    private static void refusedConditions(Due due) {
        due.sentence("THE LAW: what is divided by 0 is REFUSED: the whole C of the RULE does not hold");
        notHeld(due, "1/0=0", "1%0=0", "0=1/0", "0=1%0", "!1/0=0", "!!1/0=0", "!(1/0=0)", "1/0=0|1=1", "(1/0=0)|1=1", "!(!(1%0=0))|1=1", "1=2|1/0=0|1=1", "1=1&1/0=0|1=1", "!(1=1&1/0=0)", "[1/0]*0=0", "1<1/[m]");
        due.sentence("THE LAW: the next RULE is asked then");
        due.is("b", burnsFor("b5(1/0=0);b6(1=1)"), 6);
        due.is("s", tenthsBy("s9(1%0=0);s6(1=1)"), 6);
        due.is("x", goesOutBy("x(!1/0=0)"), 0);
    }

    private static void asMuchAsMatters(Due due) {
        due.sentence("THE LAW: of a C as much is asked, from the left, as matters");
        held(due, "1=1|1/0=0", "1=2|1=1|1/0=0", "1=1&1=1|1/0=0", "1=2&1/0=0|1=1", "1=2&1/0=0&1/0=0|1=1|1/0=0", "!(1=2&1/0=0)", "(1=1|1/0=0)&1=1", "!(!(1=1|1/0=0))", "1=1|1/0=0&1/0=0", "(1=2&1/0=0)|1=1");
        notHeld(due, "1=2&1/0=0", "1=1&(1=2&1/0=0)", "1=2&1=1|1/0=0", "1=1&1/0=0", "(1=2|1/0=0)|1=1");
        due.is("a C that does not hold, by as much as matters", burnsFor("b5(!(1=1|1/0=0));b6(1=1)"), 6);
    }

    private static void conditions(Due due) {
        due.sentence("THE LAW: PARTS with a | one of which must hold, TESTS with an & all of which must, a ! of one TEST");
        held(due, "1=2|1=2|1=1", "1=1&1=1&1=1", "1=1|1=2&1=2", "1=2&1=2|1=1", "!1=2&1=1", "!1=2|1=2", "!(1=1&1=2)", "!!1=1", "!!!!1=1", "(1=2|1=1)&(1=1|1=2)");
        notHeld(due, "1=2|1=2|1=2", "1=1&1=1&1=2", "(1=1|1=2)&1=2", "!1=2&1=2", "!(1=2|1=1)", "!!!1=1", "!1=1|1=2", "1=2&(1=1|1=1)", "!1<2", "!2>1", "!(1<2)", "!(2>1)");
        held(due, "!2<1", "!1>2", "!1<1", "!1>1", "!!1<2", "!!2>1");
        due.sentence("THE LAW: as many TESTS as 240 bytes hold");
        due.is("&, all hold", goesOutBy("x(" + "1=1&".repeat(58) + "1=1)"), 1);
        due.is("&, the last does not", goesOutBy("x(" + "1=1&".repeat(58) + "1=2)"), 0);
        due.is("&, the first does not", goesOutBy("x(1=2" + "&1=1".repeat(58) + ")"), 0);
        due.is("|, the last holds", goesOutBy("x(" + "1=2|".repeat(58) + "1=1)"), 1);
        due.is("|, none holds", goesOutBy("x(" + "1=2|".repeat(58) + "1=2)"), 0);
        due.is("both in turn, the last holds", goesOutBy("x(" + "1=1&1=2|".repeat(29) + "1=1)"), 1);
        due.is("both in turn, none holds", goesOutBy("x(" + "1=1&1=2|".repeat(29) + "1=2)"), 0);
        due.is("in brackets", goesOutBy("x(" + "(1=1)&".repeat(38) + "!1=2)"), 1);
        due.sentence("THE LAW: as many FACTORS as 240 bytes hold");
        due.is("TERMS", burnsFor("b7" + "+1-1".repeat(55) + "(1=1)"), 7);
        due.is("FACTORS", burnsFor("b7" + "*1/1".repeat(55) + "(1=1)"), 7);
        due.is("brackets", burnsFor("b7" + "+[1]-[1]".repeat(27) + "(1=1)"), 7);
    }

    private static boolean comesBy(String town, String orders, String condition, int place) {
        InsuredFlame x = Due.flame(town, orders, "s10(" + condition + ")");
        return x.comes(place % 12, place / 12, 1) == 1;
    }

    private static void thePlace(Due due) {
        due.sentence("THE LAW: p the PLACE (12 Y and X), 0 to 95");
        due.is("0", comesBy(Due.ALL_WOOD, "*1,0", "p=0", 0), true);
        due.is("11", comesBy(Due.ALL_WOOD, "*10,0", "p=11", 11), true);
        due.is("12", comesBy(Due.ALL_WOOD, "*1,1", "p=12", 12), true);
        due.is("84", comesBy(Due.ALL_WOOD, "*0,6", "p=84", 84), true);
        due.is("95", comesBy(Due.ALL_WOOD, "*11,6", "p=95", 95), true);
        due.is("not the one it goes over from", comesBy(Due.ALL_WOOD, "*1,0", "p=1", 0), false);
        due.sentence("THE LAW: p in b, x");
        InsuredFlame x = Due.flame(Due.ALL_WOOD, "*10,7", "s10(1=1);b8(p=95);b2(1=1);x(p=94)");
        x.minutes(1);
        due.is("b of 95", x.placeIs(11, 7, 2), 8);
        due.is("b of 93", x.placeIs(9, 7, 2), 2);
        due.is("x of 94", x.placeIs(10, 7, 1), 2);
    }

    private static void minutesYet(Due due) {
        due.sentence("THE LAW: m MINUTES it burns yet (in s those of the one it would go over from, in b 0)");
        InsuredFlame x = Due.flame("##", "*0,0", "s10(m=1);b7-m(1=1)");
        due.is("in s, the third MINUTE", x.comes(1, 0, 9), 3);
        x.minutes(3);
        due.is("in b", x.placeIs(1, 0, 2), 7);
        due.sentence("THE LAW: m in x, from 3 (lit) down to 1");
        for (int m = 1; m <= 3; m++) {
            InsuredFlame y = Due.flame("#", "*0,0", "x(m=" + m + ")");
            due.is("x(m=" + m + ")", y.over(9), 4 - m);
        }
        due.sentence("THE LAW: m is 9 at most");
        InsuredFlame z = Due.flame("##", "*0,0", "s10(1=1);b99(1=1);x(m=9)");
        due.is("x of nine", z.comes(1, 0, 1), 1);
        z.minutes(2);
        due.is("x of nine", z.placeIs(1, 0, 1), 2);
    }

    private static void howManyBurn(Due due) {
        due.sentence("THE LAW: n how many PLACES NEXT to it burn (0 to 4)");
        String cross = ".#./3#/.#.";
        String[] orders = {"*1,0", "*1,0;*2,1", "*1,0;*2,1;*1,2", "*1,0;*2,1;*1,2;*0,1"};
        for (int n = 1; n <= 4; n++) {
            due.is("n " + n, comesBy(cross, orders[n - 1], "n=" + n, 13), true);
            due.is("not n " + (n - 1), comesBy(cross, orders[n - 1], "n=" + (n - 1), 13), false);
        }
        due.is("n 0, in x", Due.flame(cross, "*1,1", "x(n=0)").tried(1, 1), 1);
        due.is("n 4, in x", Due.flame(cross, "*1,1;*1,0;*2,1;*1,2;*0,1", "x(n=4)").tried(1, 1), 1);
        due.sentence("THE LAW: n is of PLACES that burn, not of BURNT ones");
        InsuredFlame x = Due.flame("3#", "*0,0", "");
        x.minutes(3);
        Due.orders(x, "*2,0");
        Due.law(x, "s10(n=1)");
        due.is("beside a BURNT one", x.comes(1, 0, 1), 1);
        due.sentence("THE LAW: n of each PLACE that burns, 0 to 95");
        for (int p = 0; p < 96; p++) {
            InsuredFlame y = Due.flame(Due.ALL_WOOD, "*" + p % 12 + "," + p / 12, "s10(n=1)");
            int next = 4 - (p % 12 == 0 || p % 12 == 11 ? 1 : 0) - (p / 12 == 0 || p / 12 == 7 ? 1 : 0);
            due.is("from " + p, y.minutes(1), 1 + next);
        }
        due.sentence("THE LAW: n of PLACES NEXT alone: none beyond an edge");
        due.is("11 is not NEXT to 12", comesBy(Due.ALL_WOOD, "*10,0;*0,1", "n=1", 11), true);
        due.is("12 is not NEXT to 11", comesBy(Due.ALL_WOOD, "*11,0;*1,1", "n=1", 12), true);
        due.is("0 is not NEXT to 84", comesBy(Due.ALL_WOOD, "*0,7;*1,0", "n=1", 0), true);
        due.is("0 is not NEXT to 11", comesBy(Due.ALL_WOOD, "*11,0;*1,0", "n=1", 0), true);
        due.is("95 is not NEXT to 11, 84", comesBy(Due.ALL_WOOD, "*11,0;*0,7;*10,7", "n=1", 95), true);
    }

    private static void valuesAndSums(Due due) {
        due.sentence("THE LAW: v VALUE of THINGS there that are not insured, i SUMS of those that are");
        String things = "0@1,0;0=5;1@1,0;1=7;1+3;2@0,0;2=90;2+80;3@1,0;3+4";
        due.is("v", comesBy("##", things + ";*0,0", "v=5", 1), true);
        due.is("i", comesBy("##", things + ";*0,0", "i=7", 1), true);
        due.sentence("THE LAW: v, i of no THINGS are 0");
        due.is("v", comesBy("3#", things + ";*1,0", "v=0&i=0", 2), true);
        due.sentence("THE LAW: v of all 24 THINGS of VALUE 9999");
        InsuredFlame x = Due.flame("##", "*0,0", "s10(v=99999+99999+39978)");
        Due.things(x, 0, 23, "1,0", 9999, 0);
        due.is("placeIs v", x.placeIs(1, 0, 4), 239976);
        due.is("in s", x.comes(1, 0, 1), 1);
        due.sentence("THE LAW: i of all 24 THINGS of SUM 9999");
        InsuredFlame y = Due.flame("##", "*0,0", "s10(i=99999+99999+39978&v=0)");
        Due.things(y, 0, 23, "1,0", 1, 9999);
        due.is("placeIs i", y.placeIs(1, 0, 5), 239976);
        due.is("in s", y.comes(1, 0, 1), 1);
        due.sentence("THE LAW: v of THINGS that are not GONE (in x they are GONE already)");
        due.is("x(v=0)", Due.flame("#", "0@0,0;0=5;*0,0", "x(v=0)").tried(1, 1), 1);
    }

    private static void waysAndWind(Due due) {
        due.sentence("THE LAW: d the way it would go over (0 up, 1 right, 2 down, 3 left; in b, x 0)");
        String cross = ".#./3#/.#.";
        int[] places = {1, 14, 25, 12};
        for (int way = 0; way < 4; way++) {
            InsuredFlame x = Due.flame(cross, "*1,1", "s10(d=" + way + ");b5(d=0);x(d=0&p=13)");
            x.minutes(1);
            for (int k = 0; k < 4; k++) {
                due.is("d=" + way + " to " + places[k], x.placeIs(places[k] % 12, places[k] / 12, 2), k == way ? 5 : 0);
            }
            due.is("in x", x.placeIs(1, 1, 1), 2);
        }
        due.sentence("THE LAW: g WIND, 0 to 3");
        for (int wind = 0; wind < 4; wind++) {
            for (int asked = 0; asked < 4; asked++) {
                InsuredFlame x = Due.flame("##", "*0,0;!" + wind, "s10(g=" + asked + ");b6(g=" + asked + ");x(g=" + asked + ")");
                due.is("s, g=" + asked + ", WIND " + wind, x.comes(1, 0, 1), wind == asked ? 1 : -2);
                due.is("x, g=" + asked + ", WIND " + wind, x.tried(1, 1), wind == asked ? 1 : 0);
            }
        }
    }

    private static void theMinute(Due due) {
        due.sentence("THE LAW: t THE MINUTE modulo 100, 0 to 99");
        for (int minute : new int[] {0, 1, 99, 100, 101, 199, 200}) {
            InsuredFlame x = Due.flame("##", "", "s10(t=" + minute % 100 + ");b7(t=" + minute % 100 + ")");
            for (int k = 0; k < minute; k += 50) {
                x.minutes(Math.min(50, minute - k));
            }
            Due.orders(x, "*0,0");
            due.is("THE MINUTE", x.count(0), minute);
            due.is("t at " + minute, x.comes(1, 0, 1), 1);
            x.minutes(1);
            due.is("in b", x.placeIs(1, 0, 2), 7);
        }
        due.sentence("THE LAW: t is 98 in the last MINUTE that goes by");
        InsuredFlame x = Due.flame("##", "", "s10(t=98)");
        for (int k = 0; k < 99; k++) {
            x.minutes(100);
        }
        x.minutes(98);
        Due.orders(x, "*0,0");
        due.is("at 9998", x.comes(1, 0, 9), 1);
    }

    private static void theDraw(Due due) {
        due.sentence("THE LAW: w the DRAW, 0 to 9");
        for (int draw = 0; draw < 10; draw++) {
            for (int asked = 0; asked <= 10; asked++) {
                InsuredFlame x = Due.flame("#", "*0,0", "x(w=" + asked + ")");
                x.seed(Due.seedOf(draw));
                due.is("x(w=" + asked + ") by " + draw, x.tried(1, 1), draw == asked ? 1 : 0);
            }
        }
        due.sentence("THE LAW: w in b, s 0");
        for (int draw = 0; draw < 10; draw++) {
            InsuredFlame x = Due.flame("##", "*0,0", "s10(w=0);b6(w=0)");
            x.seed(Due.seedOf(draw));
            x.minutes(1);
            due.is("b by " + draw, x.placeIs(1, 0, 2), 6);
        }
    }
}
