/** Promises 23 to 26 at their bounds: seed, keep, undo, check. */
public final class KeepEdgesTest {
    private static final int MAX = Integer.MAX_VALUE;
    private static final int MIN = Integer.MIN_VALUE;
    private static final int[] ZEROS = new int[24];

    public static void main(String[] args) {
        Due due = new Due();
        seedBounds(due);
        keepAnswers(due);
        noneKept(due);
        undoneTwice(due);
        allThatIsKept(due);
        whatIsNotKept(due);
        whatPlacesAreOf(due);
        checkBounds(due);
        checkTape(due);
        checkAnswers(due);
        due.end();
    }

    private static void seedBounds(Due due) {
        due.sentence("promise 23: THE SEED (0 to 65535; X, too): true");
        for (int seed : new int[] {0, 1, 2, 255, 256, 32767, 32768, 65534, 65535}) {
            InsuredFlame x = new InsuredFlame();
            due.is("seed " + seed, x.seed(seed), true);
            due.is("count 8", x.count(8), seed);
        }
        due.sentence("promise 23: false: no such number, and X stays");
        InsuredFlame x = new InsuredFlame();
        x.seed(77);
        for (int seed : new int[] {-1, -2, 65536, 65537, 1 << 30, MAX, MIN, -65535}) {
            due.is("seed " + seed, x.seed(seed), false);
            due.is("count 8", x.count(8), 77);
        }
        due.sentence("promise 23: DRAWS go on from X");
        for (int seed : new int[] {0, 65535}) {
            InsuredFlame y = Due.flame("#", "*0,0", "");
            y.minutes(1);
            y.seed(seed);
            y.minutes(1);
            due.is("X behind " + seed, y.count(8), Due.drawn(seed));
        }
    }

    private static void keepAnswers(Due due) {
        due.sentence("promise 24: KEPT: THE MINUTE");
        InsuredFlame x = new InsuredFlame();
        due.is("keep at first", x.keep(), 0);
        x.minutes(1);
        due.is("keep", x.keep(), 1);
        x.minutes(100);
        due.is("keep", x.keep(), 101);
        due.sentence("promise 24: nothing is changed by it");
        InsuredFlame y = Due.flame("##", "*0,0;0@1,0;0=5", "s10(1=1)");
        y.feed(0, 0, 0, 0, 0);
        y.minutes(1);
        y.keep();
        int[] wants = {1, 1, 0, 2, 0, 0, 1, 20, Due.drawn(Due.drawn(1)), 0};
        for (int what = 0; what < 10; what++) {
            due.is("count " + what, y.count(what), wants[what]);
        }
    }

    private static void noneKept(Due due) {
        due.sentence("promise 25: false: none was KEPT, and all stays");
        InsuredFlame x = Due.flame("##", "*0,0;0@1,0;0=5;!2", "s10(1=1)");
        x.minutes(1);
        x.seed(9);
        due.is("undo", x.undo(), false);
        int[] wants = {1, 1, 0, 2, 0, 2, 1, 0, 9, 0};
        for (int what = 0; what < 10; what++) {
            due.is("count " + what, x.count(what), wants[what]);
        }
        due.is("and again", x.undo(), false);
        due.sentence("promise 25: what a new object is can be KEPT");
        InsuredFlame y = new InsuredFlame();
        y.keep();
        Due.orders(y, "0@1,0;0=5;!2");
        y.minutes(7);
        y.seed(9);
        due.is("undo", y.undo(), true);
        int[] first = {0, 0, 0, 0, 0, 0, 0, 0, 1, 0};
        for (int what = 0; what < 10; what++) {
            due.is("count " + what, y.count(what), first[what]);
        }
        due.is("not told", y.thingIs(0, 1), -1);
    }

    private static void undoneTwice(Due due) {
        due.sentence("UNDONE: as they were KEPT last, however often");
        InsuredFlame x = Due.flame("4#", "*0,0", "s10(1=1);b9(1=1)");
        x.keep();
        x.minutes(1);
        x.keep();
        for (int k = 0; k < 3; k++) {
            x.minutes(2);
            due.is("burnt or burning", x.count(3) + x.count(4), 4);
            due.is("undo", x.undo(), true);
            due.is("THE MINUTE", x.count(0), 1);
            due.is("BURNING", x.count(3), 2);
        }
        due.is("undo at once", x.undo(), true);
        due.is("THE MINUTE", x.count(0), 1);
        due.sentence("UNDONE: the same MINUTES come again");
        int burning = x.minutes(2);
        int drawn = x.count(8);
        x.undo();
        due.is("BURNING", x.minutes(2), burning);
        due.is("X", x.count(8), drawn);
    }

    private static void allThatIsKept(Due due) {
        due.sentence("KEPT: PLACES' states (BURNING, its MINUTES, BURNT)");
        InsuredFlame x = Due.flame("3#", "*0,0;23@0,0;23=9;22@1,0;22=8;22+7;!3", "");
        x.minutes(2);
        Due.orders(x, "*1,0");
        x.minutes(1);
        x.seed(65535);
        x.keep();
        x.minutes(2);
        Due.orders(x, "*2,0;23@5,5;23=1;23+2;22@6,6;22=3;22+4;21@0,0;!1");
        x.minutes(3);
        due.is("undo", x.undo(), true);
        int[] states = {2, 1, 0};
        int[] left = {0, 2, 0};
        for (int p = 0; p < 3; p++) {
            due.is("state of " + p, x.placeIs(p, 0, 1), states[p]);
            due.is("MINUTES of " + p, x.placeIs(p, 0, 2), left[p]);
        }
        due.sentence("KEPT: THINGS (told, the PLACE, VALUE, SUM, GONE)");
        due.is("told", x.count(1), 3 << 22);
        int[] gone = {0, 9, 0, 1, 0};
        int[] stays = {1, 8, 7, 0, 6};
        for (int what = 0; what < 5; what++) {
            due.is("thingIs 23, " + what, x.thingIs(23, what), gone[what]);
            due.is("thingIs 22, " + what, x.thingIs(22, what), stays[what]);
            due.is("thingIs 21, " + what, x.thingIs(21, what), -1);
        }
        due.sentence("KEPT: WIND, THE MINUTE, X");
        due.is("WIND", x.count(5), 3);
        due.is("THE MINUTE", x.count(0), 3);
        due.is("X", x.count(8), 65535);
        due.sentence("UNDONE: a THING told anew behind it has VALUE, SUM 0 at first");
        Due.orders(x, "21@1,1");
        due.is("VALUE", x.thingIs(21, 1), 0);
        due.is("SUM", x.thingIs(21, 2), 0);
    }

    private static void whatIsNotKept(Due due) {
        due.sentence("KEPT: not THE LAW, not the tape: they stay as they are now");
        InsuredFlame x = Due.flame("##", "", "s10(1=1)");
        x.feed(0, 0, 0, 0, 0);
        x.keep();
        x.check(0);
        Due.law(x, "s1(1=1);b2(1=1);x(1=1)");
        x.feed(0, 0, 0, 0, 0);
        x.feed(0, 0, 0, 0, 0);
        due.is("undo", x.undo(), true);
        due.is("RULES", x.count(6), 3);
        due.is("bytes", x.count(7), 40);
    }

    private static void whatPlacesAreOf(Due due) {
        due.sentence("UNDONE: what PLACES are of stays as it is now");
        InsuredFlame x = Due.flame("6#", "*0,0;*1,0;*2,0;*3,0", "");
        x.minutes(2);
        Due.orders(x, "*4,0");
        x.minutes(1);
        x.keep();
        Due.town(x, "#+~.##/#");
        due.is("undo", x.undo(), true);
        int[] kinds = {1, 2, 3, 0, 1, 1};
        for (int p = 0; p < 6; p++) {
            due.is("placeIs " + p + ", 0", x.placeIs(p, 0, 0), kinds[p]);
        }
        due.is("WOOD that was not told then", x.placeIs(0, 1, 0), 1);
        due.sentence("UNDONE: one that is no WOOD now is WHOLE; one that is WOOD as it was");
        int[] states = {2, 0, 0, 0, 1, 0};
        for (int p = 0; p < 6; p++) {
            due.is("placeIs " + p + ", 1", x.placeIs(p, 0, 1), states[p]);
            due.is("placeIs " + p + ", 2", x.placeIs(p, 0, 2), p == 4 ? 2 : 0);
        }
        due.is("BURNT", x.count(4), 1);
        due.is("BURNING", x.count(3), 1);
        due.sentence("UNDONE: and by ~ in ORDERS, too");
        Due.orders(x, "~0,0;~4,0");
        x.undo();
        due.is("WATER", x.placeIs(0, 0, 0), 3);
        due.is("BURNT", x.count(4), 0);
        due.is("BURNING", x.count(3), 0);
        due.sentence("UNDONE: if they are WOOD again, they are as they were KEPT");
        Due.town(x, "6#");
        x.undo();
        due.is("BURNT", x.count(4), 4);
        due.is("BURNING", x.count(3), 1);
    }

    private static void checkBounds(Due due) {
        due.sentence("promise 26: n (0 to 24)");
        for (int n = 0; n <= 24; n++) {
            InsuredFlame x = new InsuredFlame();
            Due.fed(x, ZEROS);
            due.is("check " + n, x.check(n), -1);
            due.is("count 7", x.count(7), 0);
        }
        due.is("check 0 of none", new InsuredFlame().check(0), -1);
        due.sentence("promise 26: -2: no such n (the tape stays)");
        InsuredFlame x = new InsuredFlame();
        Due.fed(x, ZEROS);
        for (int n : new int[] {-1, -24, 25, 26, 40, MAX, MIN}) {
            due.is("check " + n, x.check(n), -2);
            due.is("count 7", x.count(7), 40);
        }
    }

    private static void checkTape(Due due) {
        due.sentence("promise 26: -2: it has not so many (the tape stays)");
        InsuredFlame x = new InsuredFlame();
        due.is("check 1 of none", x.check(1), -2);
        due.is("check 24 of none", x.check(24), -2);
        x.feed(0, 0, 0, 0, 0);
        due.is("check 21 of 20", x.check(21), -2);
        due.is("check 24 of 20", x.check(24), -2);
        due.is("count 7", x.count(7), 20);
        due.is("check 20 of 20", x.check(20), -1);
        due.sentence("promise 26: empty then, right or not, by n 0, too");
        due.is("count 7", x.count(7), 0);
        x.feed(-1, 0, 0, 0, 0);
        due.is("check 1", x.check(1), 0);
        due.is("count 7", x.count(7), 0);
        Due.fill(x, 260, 9);
        due.is("check 0", x.check(0), -1);
        due.is("count 7", x.count(7), 0);
        due.sentence("promise 26: by the first n bytes of the tape");
        Due.fed(x, 0, 0, 9);
        due.is("check 2", x.check(2), -1);
        Due.fed(x, 0, 0, 9);
        due.is("check 3", x.check(3), 2);
    }

    private static int checked(InsuredFlame x, int thing, int value) {
        int[] bytes = new int[24];
        bytes[thing] = value;
        Due.fed(x, bytes);
        return x.check(24);
    }

    private static void checkAnswers(Due due) {
        due.sentence("CHECK: VALUES of THINGS modulo 256");
        int[][] rows = {{0, 0}, {1, 1}, {255, 255}, {256, 0}, {257, 1}, {511, 255}, {512, 0}, {9999, 15}, {9984, 0}, {9983, 255}};
        for (int[] row : rows) {
            InsuredFlame x = Due.flame("", "23@0,0;23=" + row[0], "");
            due.is("VALUE " + row[0], checked(x, 23, row[1]), -1);
            due.is("VALUE " + row[0] + ", wrong", checked(x, 23, row[1] ^ 128), 23);
        }
        due.sentence("CHECK: right, or the first that is not so, 0 to 23");
        for (int i = 0; i < 24; i++) {
            InsuredFlame x = Due.flame("", "0@0,0;0=5;23@0,0;23=7", "");
            int[] bytes = new int[24];
            bytes[0] = 5;
            bytes[23] = 8;
            bytes[i] += 1;
            Due.fed(x, bytes);
            due.is("wrong at " + i, x.check(24), i);
        }
        due.sentence("CHECK: GONE ones 0");
        InsuredFlame y = Due.flame("#", "3@0,0;3=9;*0,0", "");
        due.is("not GONE", checked(y, 3, 9), -1);
        y.minutes(1);
        due.is("GONE", checked(y, 3, 0), -1);
        due.is("GONE, wrong", checked(y, 3, 9), 3);
        due.sentence("promise 26: of THINGS that are not told 0");
        due.is("not told", checked(new InsuredFlame(), 5, 0), -1);
        due.is("not told, wrong", checked(new InsuredFlame(), 5, 1), 5);
        due.sentence("CHECK: insured ones by their VALUE, too");
        InsuredFlame z = Due.flame("", "3@0,0;3=9;3+4", "");
        due.is("insured", checked(z, 3, 9), -1);
        due.is("insured, by its SUM", checked(z, 3, 4), 3);
    }
}
