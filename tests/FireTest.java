/** Promises 6, 7, 10 and 11: minutes, tried, comes, over. */
public final class FireTest {
    public static void main(String[] args) {
        Due due = new Due();
        wrongOnes(due);
        burning(due);
        whatIsLost(due);
        draws(due);
        waits(due);
        theLastMinute(due);
        triesChangeNothing(due);
        due.end();
    }

    private static void wrongOnes(Due due) {
        InsuredFlame x = new InsuredFlame();
        for (int n : new int[] {0, -1, 101, Integer.MAX_VALUE, Integer.MIN_VALUE}) {
            due.is("minutes " + n, x.minutes(n), -1);
            due.is("tried " + n, x.tried(n, 0), -1);
            due.is("comes " + n, x.comes(0, 0, n), -1);
            due.is("over " + n, x.over(n), -1);
        }
        due.is("tried what 5", x.tried(1, 5), -1);
        due.is("tried what -1", x.tried(1, -1), -1);
        due.is("comes x 12", x.comes(12, 0, 1), -1);
        due.is("comes x -1", x.comes(-1, 0, 1), -1);
        due.is("comes y 8", x.comes(0, 8, 1), -1);
        due.is("comes y -1", x.comes(0, -1, 1), -1);
        due.is("no minute went by", x.count(0), 0);
        due.is("minutes of nothing", x.minutes(100), 0);
        due.is("100 minutes", x.count(0), 100);
        due.is("no draw without a fire", x.count(8), 1);
    }

    private static void burning(Due due) {
        InsuredFlame x = new InsuredFlame();
        Due.town(x, "5#+#~#.#");
        Due.orders(x, "*0,0");
        Due.law(x, "s10(1=1);b2(1=1)");
        due.is("comes at 0", x.comes(0, 0, 1), 0);
        due.is("comes to 4", x.comes(4, 0, 4), 4);
        due.is("comes to 4 in 3", x.comes(4, 0, 3), -2);
        due.is("never beyond insured wood", x.comes(6, 0, 100), -2);
        due.is("never to insured wood", x.comes(5, 0, 100), -2);
        due.is("over", x.over(6), 6);
        due.is("not over in 5", x.over(5), -2);
        due.is("minutes 1", x.minutes(1), 2);
        due.is("2 yet", x.placeIs(1, 0, 2), 2);
        due.is("3 less 1", x.placeIs(0, 0, 2), 2);
        due.is("minutes 2", x.minutes(1), 3);
        due.is("minutes 3", x.minutes(1), 2);
        due.is("burnt 0", x.placeIs(0, 0, 1), 2);
        due.is("burnt 0 has no minutes", x.placeIs(0, 0, 2), 0);
        due.is("burnt", x.count(4), 2);
        due.is("to the end", x.minutes(50), 0);
        due.is("burnt then", x.count(4), 5);
        due.is("over at once", x.over(1), 0);
        due.is("not whole, so 0", x.comes(2, 0, 1), 0);
        due.is("the minute", x.count(0), 53);
    }

    private static void whatIsLost(Due due) {
        InsuredFlame x = new InsuredFlame();
        Due.town(x, "3#");
        Due.orders(x, "0@0,0;0=10;1@1,0;1=20;2@2,0;2=40;2+7;3@1,0;4@5,5;4=99;5@1,0;5+3");
        Due.orders(x, "*0,0");
        Due.law(x, "s10(1=1);b1(1=1)");
        due.is("lost in 1", x.tried(1, 2), 10);
        due.is("gone in 1", x.tried(1, 3), 1);
        due.is("sums in 1", x.tried(1, 4), 3);
        due.is("lost in 2", x.tried(2, 2), 30);
        due.is("gone in 2", x.tried(2, 3), 1 | 2 | 8);
        due.is("sums in 2", x.tried(2, 4), 10);
        x.minutes(1);
        due.is("lost in the next", x.tried(1, 2), 20);
        due.is("gone then", x.tried(1, 3), 1 | 2 | 8);
        due.is("lost so far", x.count(9), 10);
        due.is("gone so far", x.count(2), 1);
        x.minutes(9);
        due.is("lost at last", x.count(9), 30);
        due.is("insured ones are left", x.thingIs(2, 3), 0);
        due.is("paid for it", x.thingIs(2, 4), 1);
    }

    private static long next(long x) {
        return (25173 * x + 13849) % 65536;
    }

    private static void draws(Due due) {
        InsuredFlame x = new InsuredFlame();
        Due.town(x, "..#/.3#/..#");
        for (int seed = 0; seed < 3000; seed += 17) {
            Due.town(x, "..#/.3#/..#");
            if (seed % 850 == 0) {
                x = new InsuredFlame();
                Due.town(x, "..#/.3#/..#");
                Due.law(x, "s4(1=1)");
            }
            x.seed(seed);
            Due.orders(x, "*2,1");
            long drawn = seed;
            int burning = 1;
            for (int way = 0; way < 4; way++) {
                drawn = next(drawn);
                burning += drawn % 10 < 4 ? 1 : 0;
            }
            drawn = next(drawn);
            due.is("burning by draws of " + seed, x.minutes(1), burning);
            due.is("X behind " + seed, x.count(8), drawn);
        }
        drawsAreMadeAnyway(due);
    }

    private static void drawsAreMadeAnyway(Due due) {
        InsuredFlame x = new InsuredFlame();
        Due.town(x, "##");
        Due.orders(x, "*0,0");
        x.minutes(1);
        due.is("two draws without a law", x.count(8), next(next(1)));
        x.minutes(1);
        due.is("four draws", x.count(8), next(next(next(next(1)))));
        due.is("whole all along", x.placeIs(1, 0, 1), 0);
        x.minutes(1);
        due.is("burnt behind three", x.placeIs(0, 0, 1), 2);
        x.minutes(1);
        due.is("no more draws", x.count(8), next(next(next(next(next(next(1)))))));
    }

    /** By numbers: 0 goes over to 1 ahead of 2; what took fire waits. */
    private static void waits(Due due) {
        InsuredFlame x = new InsuredFlame();
        Due.town(x, "4#");
        Due.orders(x, "*0,0");
        Due.law(x, "s10(1=1);b1(1=1)");
        due.is("one step a minute", x.tried(1, 0), 2);
        due.is("none is burnt yet", x.tried(1, 1), 0);
        due.is("then", x.tried(2, 0), 2);
        due.is("one burnt", x.tried(2, 1), 1);
        InsuredFlame y = new InsuredFlame();
        Due.town(y, "3#");
        Due.orders(y, "*0,0;*2,0");
        Due.law(y, "s10(d=1);b4(n=2)");
        y.minutes(1);
        due.is("from the lower one first", y.placeIs(1, 0, 2), 4);
        due.is("no draw for what burns already", y.count(8), next(next(next(1))));
    }

    private static void theLastMinute(Due due) {
        InsuredFlame x = new InsuredFlame();
        Due.town(x, "##");
        for (int k = 0; k < 99; k++) {
            x.minutes(100);
        }
        x.minutes(98);
        due.is("9998", x.count(0), 9998);
        Due.orders(x, "*0,0");
        due.is("not over", x.over(100), -2);
        due.is("as many as can", x.tried(100, 0), 1);
        due.is("minutes 100", x.minutes(100), 1);
        due.is("9999", x.count(0), 9999);
        due.is("one went by", x.placeIs(0, 0, 2), 2);
        long drawn = x.count(8);
        due.is("none goes by", x.minutes(1), 1);
        due.is("9999 at most", x.count(0), 9999);
        due.is("no draws then", x.count(8), drawn);
        due.is("it stays", x.placeIs(0, 0, 2), 2);
        due.is("it never comes", x.comes(1, 0, 100), -2);
    }

    private static void triesChangeNothing(Due due) {
        InsuredFlame x = new InsuredFlame();
        Due.town(x, "5#/5#");
        Due.orders(x, "*2,0;0@1,0;0=5");
        Due.law(x, "s6(1=1);b3(1=1)");
        for (int what = 0; what < 5; what++) {
            x.tried(50, what);
        }
        x.comes(4, 1, 50);
        x.over(50);
        due.is("X", x.count(8), 1);
        due.is("minute", x.count(0), 0);
        due.is("burning", x.count(3), 1);
        due.is("burnt", x.count(4), 0);
        due.is("gone", x.count(2), 0);
        int burning = x.tried(7, 0);
        int burnt = x.tried(7, 1);
        due.is("as tried", x.minutes(7), burning);
        due.is("burnt as tried", x.count(4), burnt);
    }
}
