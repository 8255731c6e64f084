/** Promises 23 to 26: seed, keep, undo, check. */
public final class KeepTest {
    public static void main(String[] args) {
        Due due = new Due();
        seed(due);
        undone(due);
        whatPlacesAreOfStays(due);
        check(due);
        due.end();
    }

    private static void seed(Due due) {
        InsuredFlame x = new InsuredFlame();
        due.is("-1", x.seed(-1), false);
        due.is("65536", x.seed(65536), false);
        due.is("X stays", x.count(8), 1);
        due.is("0", x.seed(0), true);
        due.is("X 0", x.count(8), 0);
        due.is("65535", x.seed(65535), true);
        due.is("X 65535", x.count(8), 65535);
        Due.town(x, "#");
        Due.orders(x, "*0,0");
        x.minutes(1);
        due.is("X goes on", x.count(8), (25173L * 65535 + 13849) % 65536);
    }

    private static void undone(Due due) {
        InsuredFlame x = new InsuredFlame();
        due.is("none kept", x.undo(), false);
        Due.town(x, "4#");
        Due.law(x, "s10(1=1);b2(1=1)");
        Due.orders(x, "*0,0;0@0,0;0=5;1@1,0;1+7;!2");
        x.minutes(1);
        x.seed(99);
        due.is("keep", x.keep(), 1);
        x.minutes(4);
        Due.orders(x, "0@3,3;0=6;1+8;2@4,4;2=9;!1");
        Due.law(x, "x(1=1)");
        x.feed(0, 0, 0, 0, 0);
        for (int k = 0; k < 2; k++) {
            due.is("undo", x.undo(), true);
            due.is("minute", x.count(0), 1);
            due.is("burning", x.count(3), 2);
            due.is("minutes yet", x.placeIs(0, 0, 2), 2);
            due.is("told", x.count(1), 3);
            due.is("gone", x.count(2), 1);
            due.is("its place", x.thingIs(0, 0), 0);
            due.is("its value", x.thingIs(0, 1), 5);
            due.is("its sum", x.thingIs(1, 2), 7);
            due.is("wind", x.count(5), 2);
            due.is("X", x.count(8), 99);
            due.is("the law stays", x.count(6), 1);
            due.is("the tape stays", x.count(7), 20);
            x.minutes(3);
        }
        x.check(0);
        Due.orders(x, "2@4,4");
        due.is("value of one that was not told", x.thingIs(2, 1), 0);
        due.is("keep again", x.keep(), 4);
        x.minutes(9);
        x.undo();
        due.is("the last one kept", x.count(0), 4);
    }

    private static void whatPlacesAreOfStays(Due due) {
        InsuredFlame x = new InsuredFlame();
        Due.town(x, "5#");
        Due.orders(x, "*0,0;*1,0;*2,0;*3,0");
        x.keep();
        Due.town(x, "#+~.#");
        due.is("undo", x.undo(), true);
        int[] kinds = {1, 2, 3, 0, 1};
        int[] states = {1, 0, 0, 0, 0};
        for (int p = 0; p < 5; p++) {
            due.is("kind " + p, x.placeIs(p, 0, 0), kinds[p]);
            due.is("state " + p, x.placeIs(p, 0, 1), states[p]);
            due.is("minutes " + p, x.placeIs(p, 0, 2), 3 * states[p]);
        }
        Due.town(x, "5#");
        due.is("undo again", x.undo(), true);
        due.is("as they were kept", x.count(3), 4);
    }

    private static void check(Due due) {
        InsuredFlame x = new InsuredFlame();
        Due.town(x, "#");
        Due.orders(x, "0@0,0;0=300;1@1,1;1=255;3@0,0;3=9;3+1;23@5,5;23=256");
        int[] values = new int[24];
        values[0] = 44;
        values[1] = 255;
        values[3] = 9;
        for (int n = 0; n <= 24; n++) {
            Due.fed(x, values);
            due.is("check " + n, x.check(n), -1);
            due.is("empty then", x.count(7), 0);
        }
        for (int i = 0; i < 24; i++) {
            int[] wrong = values.clone();
            wrong[i] ^= 1;
            wrong[23] ^= 2;
            Due.fed(x, wrong);
            due.is("wrong at " + i, x.check(24), i);
            due.is("empty then, too", x.count(7), 0);
        }
        Due.orders(x, "*0,0");
        x.minutes(1);
        Due.fed(x, values);
        due.is("a gone one is 0", x.check(24), 0);
        values[0] = 0;
        Due.fed(x, values);
        due.is("right again", x.check(24), -1);
        due.is("25", x.check(25), -2);
        due.is("-1", x.check(-1), -2);
        due.is("1 of none", x.check(1), -2);
        x.feed(0, 0, 0, 0, 0);
        due.is("21 of 20", x.check(21), -2);
        due.is("the tape stays", x.count(7), 20);
    }
}
