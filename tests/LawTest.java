/** Promise 3: law; how its FAULTS are told, and what its RULES answer in a fire. */
public final class LawTest {
    public static void main(String[] args) {
        Due due = new Due();
        good(due);
        faults(due);
        openOnes(due);
        rulesAtMost(due);
        theOneBeforeStays(due);
        amounts(due);
        conditions(due);
        refused(due);
        letters(due);
        due.end();
    }

    private static void good(Due due) {
        InsuredFlame x = new InsuredFlame();
        due.law(x, "x(1=1)", 1);
        due.law(x, "b1+2*3-4/5%6(p<m|n>v&i=d|!(g=t)&!!w=1)", 1);
        due.law(x, "s[[1]](99999>0);x(((1=1)));b00000([1]=[[2]])", 3);
        due.is("count 6", x.count(6), 3);
        StringBuilder longest = new StringBuilder("s10");
        while (longest.length() < 235) {
            longest.append("+1");
        }
        due.law(x, longest + "(1=1)", 1);
        due.is("240 bytes", (longest + "(1=1)").length(), 240);
    }

    private static void faults(Due due) {
        InsuredFlame x = new InsuredFlame();
        String[] texts = {"a1(1=1)", "s", "s(1=1)", "x1(1=1)", "x", "x(", "x()", "x(1", "x(1)", "x(1=", "x(1=)", "x(1=1", "x(1=1)x", "x(1=1);", "x(1=1);;", "s1", "s1+", "s1+(1=1)", "s1(1=1", "s[1", "s[1(", "s[](1=1)", "s(1)(1=1)",
            "s123456(1=1)", "s99999(1=1)", "x(123456=1)", "x(1=1=1)", "x(1<>1)", "x(1=1&)", "x(1=1|)", "x(&1=1)", "x(1=1||1=1)", "x(!)", "x(!1)", "x((1=1)=1)", "x((1=1)&1)", "x([1=1])", "x(1=1])", "x( 1=1)", "x(b=1)", "x(1=-1)",
            "x(1=1))", "s1;x(1=1)", "s1*(1=1)", "s1m(1=1)", "smm(1=1)", "x(12[1]=1)", "B1(1=1)", "x(1=1) ", "x(!!)"};
        int[] wants = {-1000, -1001, -1001, -1001, -1001, -1002, -1002, -1003, -1003, -1004, -1004, -1005, -1006, -1007, -1007, -1002, -1003, -1003, -1006, -1003, -1003, -1002, -1001,
            -2006, 1, -2007, -1005, -1004, -1006, -1006, -1002, -1006, -1003, -1004, -1007, -1009, -1004, -1005, -1002, -1002, -1004,
            -1006, -1002, -1003, -1002, -1002, -1004, -1000, -1006, -1004};
        due.is("as many wants", wants.length, texts.length);
        for (int k = 0; k < Math.min(texts.length, wants.length); k++) {
            due.law(x, texts[k], wants[k]);
        }
    }

    private static void openOnes(Due due) {
        InsuredFlame x = new InsuredFlame();
        due.law(x, "s[[[[[[1]]]]]](1=1)", 1);
        due.law(x, "s[[[[[[[1]]]]]]](1=1)", -5007);
        due.law(x, "x((((((1=1))))))", 1);
        due.law(x, "x(((((((1=1)))))))", -5007);
        due.law(x, "x(!!!!!1=1)", 1);
        due.law(x, "x(!!!!!!1=1)", -5007);
        due.law(x, "x(!!!!!(1=1))", -5007);
        due.law(x, "x(!!!!![1]=1)", -5007);
        due.law(x, "x(!!!!!1=[1])", -5009);
        due.law(x, "x(!!!!1=[1])", 1);
        due.law(x, "x(!!!!!1=1&!!!!!1=1|!!!!!2=2)", 1);
        due.law(x, "x(!(!(!1=1)))", 1);
        due.law(x, "x(!(!(![1]=1)))", -5007);
        due.law(x, "x(!(!(!1=1)&[1]=1)&[1]=1)", 1);
        due.law(x, "x([[[[[1]]]]]=[[[[[1]]]]])", 1);
        due.law(x, "x([[[[[[1]]]]]]=1)", -5007);
        due.law(x, "x(!!!!!)", -1007);
    }

    private static void rulesAtMost(Due due) {
        InsuredFlame x = new InsuredFlame();
        StringBuilder rules = new StringBuilder("x(1=1)");
        for (int k = 1; k < 16; k++) {
            rules.append(";x(1=1)");
        }
        due.law(x, rules.toString(), 16);
        int at = rules.length() + 1;
        due.law(x, rules + ";", -1000 - at);
        due.law(x, rules + ";y", -1000 - at);
        due.law(x, rules + ";x", -4000 - at);
        due.law(x, rules + ";b", -4000 - at);
        due.law(x, rules + ";s1(", -4000 - at);
    }

    private static void theOneBeforeStays(Due due) {
        InsuredFlame x = new InsuredFlame();
        Due.town(x, "##");
        Due.orders(x, "*0,0");
        Due.law(x, "s10(1=1);b7(1=1)");
        due.law(x, "s0(1=1);b1(1=1);", -1016);
        due.is("count 6", x.count(6), 2);
        due.is("still goes over", x.tried(1, 0), 2);
        due.law(x, "s0(1=1)", 1);
        due.is("in place of the one before", x.tried(1, 0), 1);
        due.is("count 6 then", x.count(6), 1);
    }

    /** The MINUTES a PLACE has yet when it has just taken fire by such an E. */
    private static int burnsFor(String rules) {
        InsuredFlame x = new InsuredFlame();
        Due.town(x, "##");
        Due.orders(x, "*0,0");
        Due.law(x, "s10(1=1)" + (rules.isEmpty() ? "" : ";" + rules));
        x.minutes(1);
        return x.placeIs(1, 0, 2);
    }

    private static void amounts(Due due) {
        due.is("no b", burnsFor(""), 1);
        due.is("b whose C does not hold", burnsFor("b5(1=2)"), 1);
        due.is("the first that holds", burnsFor("b5(1=2);b6(1=1);b7(1=1)"), 6);
        due.is("above", burnsFor("b10(1=1)"), 9);
        due.is("below", burnsFor("b0-5(1=1)"), 1);
        due.is("terms", burnsFor("b1+2*3(1=1)"), 7);
        due.is("from the left", burnsFor("b9-3-2(1=1)"), 4);
        due.is("from the left in a term", burnsFor("b100/5/4%3*2(1=1)"), 4);
        due.is("term, then sum", burnsFor("b9-2*3+1(1=1)"), 4);
        due.is("brackets", burnsFor("b[1+2]*[3-1](1=1)"), 6);
        due.is("rounded to 0", burnsFor("b5+[0-7]/2(1=1)"), 2);
        due.is("rest of a negative one", burnsFor("b5+[0-7]%4(1=1)"), 2);
        due.is("32 bits", burnsFor("b99999*99999*0+7(1=1)"), 7);
        due.is("wraps around", burnsFor("b99999*99999/20000/10000(1=1)"), 7);
        due.is("as much as can wait", burnsFor("b0+1*[0+1*[0+1*[0+1*[0+1*[0+1*[7]]]]]](1=1)"), 7);
        due.is("as much as can wait in a C", burnsFor("b6(0+7=0+1*[0+1*[0+1*[0+1*[0+1*[7]]]]])"), 6);
        due.is("least by -1", burnsFor("b5([0-65536*32768]/[0-1]<0)"), 5);
        due.is("least rest -1", burnsFor("b5([0-65536*32768]%[0-1]=0)"), 5);
    }

    private static boolean holds(String condition) {
        return burnsFor("b5(" + condition + ")") == 5;
    }

    private static void conditions(Due due) {
        String[] held = {"1<2", "2>1", "1=1", "!1=2", "1=2|1=1", "1=1&2=2", "1=2&1=1|1=1", "1=1|1=1&1=2", "!(1=1&1=2)", "!!1=1", "(1=1|1=1)&1=1", "1=2|1=2|1=1", "1=1&1=1&1=1", "!1=2&1=1", "!(1=2)|1=2", "!1=2&!1=3"};
        String[] not = {"1<1", "1>1", "1=2", "!1=1", "1=2|1=2", "1=1&1=2", "(1=1|1=1)&1=2", "1=2&1=1|1=2", "!(1=1|1=2)", "1=2&(1=1|1=1)", "!1=1|1=2", "!!1=2", "!1=2&1=2"};
        for (String condition : held) {
            due.is(condition, holds(condition), true);
        }
        for (String condition : not) {
            due.is(condition, holds(condition), false);
        }
    }

    private static void refused(Due due) {
        due.is("E by 0", burnsFor("b5+1/0(1=1);b7(1=1)"), 1);
        due.is("E rest by 0", burnsFor("b5+1%0(1=1)"), 1);
        due.is("E by 0 times 0", burnsFor("b5+[1/0]*0(1=1)"), 1);
        due.is("C by 0", holds("1/0=0"), false);
        due.is("C by 0, not", holds("!1/0=0"), false);
        due.is("C by 0, or", holds("1/0=0|1=1"), false);
        due.is("C by 0 inside", holds("(!(1%0=0))|1=1"), false);
        due.is("C by 0 on the right", holds("0=1/0|1=1"), false);
        due.is("not asked behind an or", holds("1=1|1/0=0"), true);
        due.is("not asked behind an and", holds("1=2&1/0=0|1=1"), true);
        due.is("not asked in a part", holds("!(1=2&1/0=0)"), true);
        due.is("asked behind an and", holds("1=1&1/0=0|1=1"), false);
        due.is("not asked further on", holds("1=2&1/0=0&1/0=0|1=1|1/0=0"), true);
        due.is("the next rule", burnsFor("b5(1/0=0);b6(1=1)"), 6);
    }

    /** A PLACE at (1, 1) that takes fire from each side in turn tells what the letters were. */
    private static boolean goesOver(String order, String condition) {
        InsuredFlame x = new InsuredFlame();
        Due.town(x, ".#./3#/.#.");
        Due.orders(x, "0@1,1;0=30;1@1,1;1=40;1+5;2@1,1;2=6;3@0,0;3=9;" + order);
        Due.law(x, "s10(" + condition + ")");
        return x.tried(1, 0) + x.tried(1, 1) > 1 && x.comes(1, 1, 1) == 1;
    }

    private static void letters(Due due) {
        due.is("p", goesOver("*0,1", "p=13"), true);
        due.is("d right", goesOver("*0,1", "d=1"), true);
        due.is("d left", goesOver("*2,1", "d=3"), true);
        due.is("d up", goesOver("*1,2", "d=0"), true);
        due.is("d down", goesOver("*1,0", "d=2"), true);
        due.is("m of the one it goes over from", goesOver("*0,1", "m=3"), true);
        due.is("n 1", goesOver("*0,1", "n=1"), true);
        due.is("n 4", goesOver("*0,1;*1,0;*1,2;*2,1", "n=4"), true);
        due.is("v", goesOver("*0,1", "v=36"), true);
        due.is("i", goesOver("*0,1", "i=5"), true);
        due.is("g", goesOver("*0,1;!2", "g=2"), true);
        due.is("t", goesOver("*0,1", "t=0"), true);
        due.is("w", goesOver("*0,1", "w=0"), true);
        due.is("not d 0", goesOver("*0,1", "d=0"), false);
        lettersOfB(due);
        lettersOfX(due);
        theMinute(due);
    }

    private static void lettersOfB(Due due) {
        for (String test : new String[] {"p=1", "m=0", "n=1", "d=0", "g=3", "t=0", "w=0", "v=0", "i=0"}) {
            InsuredFlame x = new InsuredFlame();
            Due.town(x, "##");
            Due.orders(x, "*0,0;!3");
            Due.law(x, "s10(1=1);b6(" + test + ")");
            x.minutes(1);
            due.is("b " + test, x.placeIs(1, 0, 2), 6);
        }
    }

    private static void lettersOfX(Due due) {
        InsuredFlame x = new InsuredFlame();
        Due.town(x, ".#./3#");
        Due.orders(x, "*1,1;!1;0@1,1;0=5;1@1,1;1=5;1+8");
        for (String test : new String[] {"p=13", "m=3", "n=0", "d=0", "g=1", "t=0", "v=0", "i=8"}) {
            Due.law(x, "x(" + test + ")");
            due.is("x " + test, x.tried(1, 1), 1);
        }
        Due.law(x, "x(1=2);x(1=1)");
        due.is("any x will do", x.tried(1, 1), 1);
        x.seed(7);
        int first = (25173 * 7 + 13849) % 65536;
        int second = (25173 * first + 13849) % 65536;
        int third = (int) ((25173L * second + 13849) % 65536);
        int fourth = (int) ((25173L * third + 13849) % 65536);
        Due.law(x, "x(w=" + fourth % 10 + ")");
        due.is("x w", x.tried(1, 1), 1);
        Due.law(x, "x(w=" + (fourth + 1) % 10 + ")");
        due.is("x w of another draw", x.tried(1, 1), 0);
        Due.law(x, "s10(1=1);x(n=3)");
        due.is("x n sees what just took fire", x.tried(1, 1), 1);
    }

    private static void theMinute(Due due) {
        InsuredFlame x = new InsuredFlame();
        Due.town(x, "##");
        Due.law(x, "s10(t=23)");
        x.minutes(100);
        x.minutes(23);
        Due.orders(x, "*0,0");
        due.is("t modulo 100", x.comes(1, 0, 1), 1);
        Due.law(x, "s10(t=24)");
        due.is("t of the second minute", x.comes(1, 0, 5), 2);
    }
}
