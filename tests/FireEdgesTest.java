/** Promises 6, 7, 10 and 11 at their bounds: minutes, tried, comes, over, and A MINUTE among the terms. */
public final class FireEdgesTest {
    private static final String ALWAYS = "s10(1=1);b9(1=1)";
    private static final int[] NO_SUCH_N = {0, -1, -100, 101, 102, 256, 9999, Integer.MAX_VALUE, Integer.MIN_VALUE};

    public static void main(String[] args) {
        Due due = new Due();
        minutesBounds(due);
        theLastMinute(due);
        tillTheLastMinute(due);
        edgesOfTheTown(due);
        whatTakesFire(due);
        waits(due);
        byNumbers(due);
        burnsDown(due);
        thingsGone(due);
        drawsOfAMinute(due);
        drawsWrapAround(due);
        triedBounds(due);
        triedAnswers(due);
        triedChangesNothing(due);
        comesBounds(due);
        comesAnswers(due);
        overBounds(due);
        overAnswers(due);
        due.end();
    }

    private static void minutesBounds(Due due) {
        due.sentence("promise 6: MINUTES (1 to 100)");
        InsuredFlame x = Due.flame("##", "*0,0", "b9(1=1)");
        due.is("minutes 1", x.minutes(1), 1);
        due.is("count 0", x.count(0), 1);
        due.is("minutes 100", x.minutes(100), 0);
        due.is("count 0", x.count(0), 101);
        due.sentence("promise 6: NONE: no such n");
        InsuredFlame y = Due.flame("##", "*0,0", ALWAYS);
        for (int n : NO_SUCH_N) {
            due.is("minutes " + n, y.minutes(n), -1);
            due.is("count 0", y.count(0), 0);
            due.is("count 8", y.count(8), 1);
            due.is("MINUTES yet", y.placeIs(0, 0, 2), 3);
        }
        due.sentence("promise 6: how many PLACES are BURNING then: none, all");
        InsuredFlame z = Due.flame(Due.ALL_WOOD, "", ALWAYS);
        due.is("none", z.minutes(100), 0);
        due.is("no DRAWS", z.count(8), 1);
        Due.orders(z, "*0,0;*3,0;*6,0;*9,0;*1,2;*4,2;*7,2;*10,2;*0,4;*3,4;*6,4;*9,4;*1,6;*4,6;*7,6;*10,6");
        due.is("all", z.minutes(2), 96);
    }

    /** At 9990 MINUTES, by 100 calls. */
    private static InsuredFlame late(String town, String law) {
        InsuredFlame x = Due.flame(town, "", law);
        for (int k = 0; k < 99; k++) {
            x.minutes(100);
        }
        x.minutes(90);
        return x;
    }

    private static void theLastMinute(Due due) {
        due.sentence("promise 6: as many as can; THE MINUTE is 9999 at most");
        InsuredFlame x = late("##", "b9(1=1)");
        due.is("count 0", x.count(0), 9990);
        due.is("minutes 8", x.minutes(8), 0);
        Due.orders(x, "*0,0");
        due.is("minutes 100 of one", x.minutes(100), 1);
        due.is("count 0", x.count(0), 9999);
        due.is("one went by", x.placeIs(0, 0, 2), 2);
        due.is("count 8", x.count(8), Due.drawn(Due.drawn(1)));
        due.sentence("A MINUTE: at 9999 none goes by");
        due.is("minutes 1", x.minutes(1), 1);
        due.is("minutes 100", x.minutes(100), 1);
        due.is("count 0", x.count(0), 9999);
        due.is("MINUTES yet", x.placeIs(0, 0, 2), 2);
        due.is("count 8", x.count(8), Due.drawn(Due.drawn(1)));
        due.is("tried BURNING", x.tried(100, 0), 1);
        due.is("tried BURNT", x.tried(100, 1), 0);
        due.is("comes to what is WHOLE", x.comes(1, 0, 100), -2);
        due.is("comes to what burns", x.comes(0, 0, 100), 0);
        due.is("over", x.over(100), -2);
        due.is("keep", x.keep(), 9999);
    }

    private static void tillTheLastMinute(Due due) {
        due.sentence("promise 7: MINUTES that are tried, as many as can");
        InsuredFlame x = late("9#3#", ALWAYS);
        x.minutes(5);
        Due.orders(x, "*0,0;0@0,0;0=5;1@3,0;1=6;2@4,0;2=7");
        due.is("count 0", x.count(0), 9995);
        due.is("tried 4, 0", x.tried(4, 0), 4);
        due.is("tried 100, 0", x.tried(100, 0), 4);
        due.is("tried 100, 1", x.tried(100, 1), 1);
        due.is("tried 100, 2", x.tried(100, 2), 11);
        due.is("tried 100, 3", x.tried(100, 3), 3);
        due.sentence("promise 10: COMES in the last MINUTE, not behind it");
        due.is("comes at 9999", x.comes(4, 0, 100), 4);
        due.is("comes no more", x.comes(5, 0, 100), -2);
        due.sentence("promise 11: OVER in the last MINUTE, not behind it");
        InsuredFlame y = late("9#3#", "");
        y.minutes(6);
        Due.orders(y, "*0,0");
        due.is("over at 9999", y.over(100), 3);
        y.minutes(1);
        Due.orders(y, "*2,0");
        due.is("over no more", y.over(100), -2);
        due.is("minutes 100", y.minutes(100), 1);
        due.is("count 4", y.count(4), 1);
    }

    private static void edgesOfTheTown(Due due) {
        due.sentence("A MINUTE: PLACES NEXT are up, right, down, left, and none beyond an edge");
        for (int place = 0; place < 96; place++) {
            InsuredFlame x = Due.flame(Due.ALL_WOOD, "*" + place % 12 + "," + place / 12, ALWAYS);
            x.minutes(1);
            for (int other = 0; other < 96; other++) {
                int far = Math.abs(place % 12 - other % 12) + Math.abs(place / 12 - other / 12);
                due.is("from " + place + " to " + other, x.placeIs(other % 12, other / 12, 1), far <= 1 ? 1 : 0);
            }
        }
    }

    private static void whatTakesFire(Due due) {
        due.sentence("A MINUTE: is the PLACE there WOOD and WHOLE (no BARE ground, INSURED WOOD, WATER, BURNT WOOD)");
        InsuredFlame x = Due.flame(".+./~##/.#.", "*1,2", "");
        x.minutes(3);
        Due.orders(x, "*1,1");
        Due.law(x, ALWAYS);
        due.is("one takes fire", x.minutes(1), 2);
        due.is("the WOOD", x.placeIs(2, 1, 1), 1);
        due.is("INSURED WOOD", x.placeIs(1, 0, 1), 0);
        due.is("WATER", x.placeIs(0, 1, 1), 0);
        due.is("BURNT WOOD stays", x.placeIs(1, 2, 1), 2);
        InsuredFlame y = Due.flame(".#.", "*1,0", ALWAYS);
        due.is("BARE ground", y.minutes(1), 1);
        due.sentence("A MINUTE: one that burns already stays as it is");
        InsuredFlame z = Due.flame("##", "*0,0;*1,0", ALWAYS);
        z.minutes(1);
        due.is("2 yet", z.placeIs(0, 0, 2), 2);
        due.is("2 yet", z.placeIs(1, 0, 2), 2);
    }

    private static void waits(Due due) {
        due.sentence("A MINUTE: a PLACE that took fire in this MINUTE waits till the next one");
        InsuredFlame x = Due.flame("3#/#/#", "*0,0;0@1,0;0=5", "s10(1=1);b1(1=1)");
        due.is("no further than one", x.minutes(1), 3);
        due.is("its MINUTES are no less", x.placeIs(1, 0, 2), 1);
        due.is("its THINGS are not GONE", x.count(2), 0);
        due.is("by a DRAW each of two and one of x", x.count(8), Due.drawn(Due.drawn(Due.drawn(1))));
        due.is("the next one", x.minutes(1), 3);
        due.is("BURNT then", x.placeIs(1, 0, 1), 2);
        due.is("GONE then", x.count(2), 1);
    }

    private static void byNumbers(Due due) {
        due.sentence("A MINUTE: each PLACE that was BURNING, by numbers");
        InsuredFlame x = Due.flame("3#", "*2,0;*0,0", ALWAYS);
        x.minutes(1);
        due.is("a DRAW for 1 once", x.count(8), Due.drawn(Due.drawn(Due.drawn(1))));
        InsuredFlame y = Due.flame("#./##", "*1,1;*0,0", "s10(d=2);b6(1=1)");
        y.minutes(1);
        due.is("(0, 1) from the lower one, which goes down", y.placeIs(0, 1, 2), 6);
        InsuredFlame z = Due.flame("#./##", "*1,1;*0,0", "s10(d=3);b6(1=1)");
        z.minutes(1);
        due.is("(0, 1) from the higher one, behind the lower one", z.placeIs(0, 1, 2), 6);
        due.sentence("A MINUTE: what a lower one did is seen by a higher one");
        InsuredFlame w = Due.flame("3#", "*0,0;*2,0", "x(n=0)");
        w.minutes(1);
        due.is("both go out", w.count(4), 2);
        InsuredFlame v = Due.flame("##", "*0,0;*1,0", "x(n=1)");
        v.minutes(1);
        due.is("the lower one went out first", v.placeIs(0, 0, 1), 2);
        due.is("so the higher one does not", v.placeIs(1, 0, 1), 1);
        due.sentence("A MINUTE: for up, right, down, left, in this order");
        for (int way = 0; way < 4; way++) {
            int[] places = {1, 14, 25, 12};
            InsuredFlame u = Due.flame(".#./3#/.#.", "*1,1", "s1(1=1);b9(1=1)");
            u.seed(seedWithZeroAt(way));
            u.minutes(1);
            for (int k = 0; k < 4; k++) {
                due.is("the DRAW of way " + way + " for " + k, u.placeIs(places[k] % 12, places[k] / 12, 1), k == way ? 1 : 0);
            }
        }
    }

    /** An X of whose next four DRAWS just that one is 0. */
    private static int seedWithZeroAt(int at) {
        for (int seed = 0; seed < 65536; seed++) {
            int x = seed;
            boolean fits = true;
            for (int k = 0; k < 4; k++) {
                x = Due.drawn(x);
                fits &= x % 10 == 0 == (k == at);
            }
            if (fits) {
                return seed;
            }
        }
        return -1;
    }

    private static void burnsDown(Due due) {
        due.sentence("A MINUTE: its MINUTES are one less: at 0 it is BURNT");
        for (int b = 1; b <= 9; b++) {
            InsuredFlame x = Due.flame("##", "*0,0", "s10(1=1);b" + b + "(1=1)");
            x.minutes(1);
            for (int left = b; left > 0; left--) {
                due.is("BURNING", x.placeIs(1, 0, 1), 1);
                due.is("MINUTES yet", x.placeIs(1, 0, 2), left);
                x.minutes(1);
            }
            due.is("BURNT", x.placeIs(1, 0, 1), 2);
            due.is("none yet", x.placeIs(1, 0, 2), 0);
        }
        due.sentence("A MINUTE: by x it is BURNT, however many MINUTES it has");
        InsuredFlame y = Due.flame("##", "*0,0", "s10(1=1);b9(1=1);x(m=9)");
        y.minutes(2);
        due.is("BURNT of nine", y.placeIs(1, 0, 1), 2);
        due.is("none yet", y.placeIs(1, 0, 2), 0);
        due.is("the other one burns", y.placeIs(0, 0, 2), 1);
        due.sentence("A MINUTE: BURNT stays BURNT");
        y.minutes(100);
        due.is("count 4", y.count(4), 2);
        due.is("count 3", y.count(3), 0);
    }

    private static void thingsGone(Due due) {
        due.sentence("A MINUTE: THINGS there that are not insured are GONE, all 24 of them");
        InsuredFlame x = Due.flame("#", "*0,0", "");
        Due.things(x, 0, 23, "0,0", 9999, 0);
        due.is("LOST, tried", x.tried(1, 2), 239976);
        due.is("GONE, tried", x.tried(1, 3), (1 << 24) - 1);
        x.minutes(1);
        due.is("count 2", x.count(2), (1 << 24) - 1);
        due.is("count 9", x.count(9), 239976);
        due.is("things left", x.placeIs(0, 0, 3), 0);
        due.sentence("A MINUTE: THINGS that are insured stay, for a SUM of 1");
        InsuredFlame y = Due.flame("#", "0@0,0;0=5;0+1;1@0,0;1=6;*0,0", "");
        y.minutes(100);
        due.is("count 2", y.count(2), 2);
        due.is("count 9", y.count(9), 6);
        due.sentence("A MINUTE: THINGS elsewhere, and at PLACES that are BURNT, stay");
        Due.orders(y, "2@0,0;2=9;3@1,0;3=9");
        y.minutes(100);
        due.is("count 2", y.count(2), 2);
        due.sentence("A MINUTE: a THING of VALUE 0 is GONE, too");
        InsuredFlame z = Due.flame("#", "23@0,0;*0,0", "");
        z.minutes(1);
        due.is("count 2", z.count(2), 1 << 23);
        due.is("count 9", z.count(9), 0);
    }

    private static void drawsOfAMinute(Due due) {
        due.sentence("A MINUTE: a DRAW for each PLACE NEXT that is WOOD and WHOLE, whatever s is, and one for x, also without an x");
        String[] towns = {"#", "##", ".#./.#./.#.", ".#./3#/.#.", "+#~"};
        int[][] lit = {{0, 0}, {0, 0}, {1, 1}, {1, 1}, {1, 0}};
        int[] draws = {1, 2, 3, 5, 1};
        for (int k = 0; k < towns.length; k++) {
            for (String law : new String[] {"", "s0(1=1)", "s10(1=1);b9(1=1)", "x(1=1)", "s5(1=1);x(w=3)"}) {
                InsuredFlame x = Due.flame(towns[k], "*" + lit[k][0] + "," + lit[k][1], law);
                x.minutes(1);
                int drawn = 1;
                for (int d = 0; d < draws[k]; d++) {
                    drawn = Due.drawn(drawn);
                }
                due.is("X of " + towns[k] + " by " + law, x.count(8), drawn);
            }
        }
        due.sentence("A MINUTE: no DRAW where nothing is BURNING");
        InsuredFlame y = Due.flame(Due.ALL_WOOD, "", ALWAYS);
        y.minutes(100);
        due.is("count 8", y.count(8), 1);
    }

    private static void drawsWrapAround(Due due) {
        due.sentence("DRAWS: X = (25173 X + 13849) modulo 65536");
        int[][] rows = {{0, 13849}, {1, 39022}, {2, 64195}, {3, 23832}, {65535, 54212}, {65534, 29039}, {32768, 46617}, {32767, 21444}};
        for (int[] row : rows) {
            InsuredFlame x = Due.flame("#", "*0,0", "");
            x.seed(row[0]);
            x.minutes(1);
            due.is("X behind " + row[0], x.count(8), row[1]);
        }
        due.sentence("DRAWS: X modulo 10");
        for (int[] row : rows) {
            InsuredFlame x = Due.flame("#", "*0,0", "x(w=" + row[1] % 10 + ")");
            x.seed(row[0]);
            due.is("the DRAW of " + row[0], x.tried(1, 1), 1);
        }
    }

    private static void triedBounds(Due due) {
        due.sentence("promise 7: MINUTES (1 to 100)");
        InsuredFlame x = Due.flame("9#3#", "*0,0", ALWAYS);
        due.is("tried 1, 0", x.tried(1, 0), 2);
        due.is("tried 100, 0", x.tried(100, 0), 0);
        due.is("tried 100, 1", x.tried(100, 1), 12);
        due.sentence("promise 7: NONE: no such ones (n)");
        for (int n : NO_SUCH_N) {
            for (int what = 0; what < 5; what++) {
                due.is("tried " + n + ", " + what, x.tried(n, what), -1);
            }
        }
        due.sentence("promise 7: NONE: no such ones (what)");
        for (int what : new int[] {-1, 5, 6, Integer.MAX_VALUE, Integer.MIN_VALUE}) {
            due.is("tried 1, " + what, x.tried(1, what), -1);
            due.is("tried 0, " + what, x.tried(0, what), -1);
        }
    }

    private static void triedAnswers(Due due) {
        due.sentence("promise 7: of nothing that burns, and no THINGS, all are 0");
        InsuredFlame x = new InsuredFlame();
        for (int what = 0; what < 5; what++) {
            due.is("tried 100, " + what, x.tried(100, what), 0);
        }
        due.sentence("promise 7: 2 LOST in them, 3 THINGS GONE then (bits)");
        InsuredFlame y = Due.flame("4#", "*0,0;0@0,0;0=9;1@1,0;1=20;23@2,0;23=300", "s10(1=1);b1(1=1)");
        int[] lost = {9, 29, 329, 329};
        int[] gone = {1, 3, 3 | 1 << 23, 3 | 1 << 23};
        for (int n = 1; n <= 4; n++) {
            due.is("tried " + n + ", 2", y.tried(n, 2), lost[n - 1]);
            due.is("tried " + n + ", 3", y.tried(n, 3), gone[n - 1]);
        }
        y.minutes(2);
        due.is("LOST in them, not ahead of them", y.tried(1, 2), 300);
        due.is("GONE then, ahead of them, too", y.tried(1, 3), 3 | 1 << 23);
        due.sentence("promise 7: 4 SUMS of THINGS that are left then at PLACES that are not WHOLE");
        InsuredFlame z = Due.flame("3#.+", "*0,0;0@0,0;0+10;1@1,0;1+200;2@2,0;2+3000;3@3,0;3+5;4@4,0;4+6;5@0,0;5=7", "s10(1=1);b1(1=1)");
        int[] sums = {210, 3210, 3210, 3210};
        for (int n = 1; n <= 4; n++) {
            due.is("tried " + n + ", 4", z.tried(n, 4), sums[n - 1]);
        }
        due.is("tried 100, 4", z.tried(100, 4), 3210);
        z.minutes(100);
        due.is("of BURNT PLACES, too", z.tried(1, 4), 3210);
        Due.orders(z, "5+40");
        due.is("a GONE one is not left", z.tried(1, 4), 3210);
        InsuredFlame w = Due.flame("#", "*0,0", "");
        Due.things(w, 0, 23, "0,0", 9999, 9999);
        due.is("all 24 of SUM 9999", w.tried(1, 4), 239976);
        due.is("none LOST", w.tried(100, 2), 0);
    }

    private static void triedChangesNothing(Due due) {
        due.sentence("TRIED are n MINUTES by the DRAWS that will come (nothing is changed)");
        for (int seed = 0; seed < 65536; seed += 8191) {
            InsuredFlame x = Due.flame("5#/5#/5#", "*2,1;0@1,0;0=5;1@3,2;1=8;1+2", "s6(1=1);b3(1=1);x(w=9)");
            x.seed(seed);
            int burning = x.tried(7, 0);
            int burnt = x.tried(7, 1);
            int lost = x.tried(7, 2);
            int gone = x.tried(7, 3);
            x.comes(4, 1, 50);
            x.over(50);
            due.is("THE MINUTE", x.count(0), 0);
            due.is("X", x.count(8), seed);
            due.is("BURNING", x.count(3), 1);
            due.is("BURNT", x.count(4), 0);
            due.is("GONE", x.count(2), 0);
            due.is("MINUTES yet", x.placeIs(2, 1, 2), 3);
            due.is("as tried, BURNING", x.minutes(7), burning);
            due.is("as tried, BURNT", x.count(4), burnt);
            due.is("as tried, LOST", x.count(9), lost);
            due.is("as tried, GONE", x.count(2), gone);
        }
    }

    private static void comesBounds(Due due) {
        due.sentence("promise 10: n MINUTES (1 to 100), PLACES at the corners");
        InsuredFlame x = Due.flame(Due.ALL_WOOD, "*0,0", ALWAYS);
        due.is("comes 0, 0, 1", x.comes(0, 0, 1), 0);
        due.is("comes 11, 0, 100", x.comes(11, 0, 100), 11);
        due.is("comes 0, 7, 100", x.comes(0, 7, 100), 7);
        due.is("comes 11, 7, 100", x.comes(11, 7, 100), 18);
        due.sentence("promise 10: NONE: no such ones (n)");
        for (int n : NO_SUCH_N) {
            due.is("comes 0, 0, " + n, x.comes(0, 0, n), -1);
            due.is("comes 1, 0, " + n, x.comes(1, 0, n), -1);
        }
        due.sentence("promise 10: NONE: no such ones (the PLACE)");
        int[][] wrong = {{-1, 0}, {12, 0}, {0, -1}, {0, 8}, {-12, 1}, {12, 7}, {Integer.MIN_VALUE, 0}, {Integer.MAX_VALUE, 0}, {0, Integer.MIN_VALUE}, {0, Integer.MAX_VALUE}};
        for (int[] place : wrong) {
            due.is("comes " + place[0] + ", " + place[1], x.comes(place[0], place[1], 1), -1);
        }
    }

    private static void comesAnswers(Due due) {
        due.sentence("promise 10: 0: it is not WHOLE (BURNING, BURNT)");
        InsuredFlame x = Due.flame("9#3#", "*0,0", ALWAYS);
        due.is("BURNING", x.comes(0, 0, 1), 0);
        x.minutes(3);
        due.is("BURNT", x.comes(0, 0, 100), 0);
        due.sentence("promise 10: behind how many of n MINUTES, the last of them, too; -2: not in these");
        InsuredFlame y = Due.flame("9#3#", "*0,0", ALWAYS);
        for (int p = 1; p < 12; p++) {
            due.is("comes to " + p + " in " + p, y.comes(p, 0, p), p);
            due.is("comes to " + p + " in " + (p + 1), y.comes(p, 0, p + 1), p);
            due.is("comes to " + p + " in " + (p - 1), y.comes(p, 0, p - 1), p == 1 ? -1 : -2);
        }
        due.sentence("promise 10: -2: never, to BARE ground, INSURED WOOD, WATER, and where nothing burns");
        InsuredFlame z = Due.flame("#.+~#", "", ALWAYS);
        due.is("nothing burns", z.comes(0, 0, 100), -2);
        Due.orders(z, "*0,0");
        for (int p = 1; p < 5; p++) {
            due.is("comes to " + p, z.comes(p, 0, 100), -2);
        }
        due.sentence("promise 10: at the 100th MINUTE");
        farAway(due);
    }

    /** A fire that waits till the last MINUTE of each PLACE: at 3 it comes to the second, at 93 to the twelfth. */
    private static void farAway(Due due) {
        InsuredFlame x = Due.flame("9#3#/2.9.#", "*0,0", "s10(m=1&p<12);s10(m=8&p=23);b9(1=1)");
        due.is("to 11", x.comes(11, 0, 100), 93);
        due.is("to 11 in 93", x.comes(11, 0, 93), 93);
        due.is("to 11 in 92", x.comes(11, 0, 92), -2);
        due.is("to 23", x.comes(11, 1, 100), 95);
        Due.law(x, "s10(m=1&p<12);s10(m=3&p=23);b9(1=1)");
        due.is("to 23 at the 100th", x.comes(11, 1, 100), 100);
        due.is("to 23 in 99", x.comes(11, 1, 99), -2);
        Due.law(x, "s10(m=1&p<12);s10(m=2&p=23);b9(1=1)");
        due.is("to 23 at the 101st", x.comes(11, 1, 100), -2);
    }

    private static void overBounds(Due due) {
        due.sentence("promise 11: n MINUTES (1 to 100)");
        InsuredFlame x = Due.flame("9#3#", "*0,0", "s10(m=1);b9(1=1)");
        due.is("over 1", x.over(1), -2);
        due.is("over 100", x.over(100), -2);
        x.minutes(2);
        due.is("over 100 two on", x.over(100), 100);
        due.is("over 99", x.over(99), -2);
        due.sentence("promise 11: NONE: no such n");
        for (int n : NO_SUCH_N) {
            due.is("over " + n, x.over(n), -1);
            due.is("over " + n + " where nothing burns", new InsuredFlame().over(n), -1);
        }
    }

    private static void overAnswers(Due due) {
        due.sentence("promise 11: 0: nothing burns");
        InsuredFlame x = Due.flame("#", "", "");
        due.is("over 1", x.over(1), 0);
        due.is("over 100", x.over(100), 0);
        due.sentence("promise 11: behind how many of n MINUTES, the last of them, too; -2: not in these");
        Due.orders(x, "*0,0");
        due.is("over 2", x.over(2), -2);
        due.is("over 3", x.over(3), 3);
        due.is("over 4", x.over(4), 3);
        x.minutes(2);
        due.is("over 1", x.over(1), 1);
        x.minutes(1);
        due.is("nothing burns any more", x.over(1), 0);
    }
}
