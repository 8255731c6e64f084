import java.util.Random;

/** Promises 12 to 16 and 22: steps, began, breaks, getsOut, safe, woods. */
public final class GroundTest {
    public static void main(String[] args) {
        Due due = new Due();
        steps(due);
        began(due);
        breaks(due);
        breaksOfDrawnTowns(due);
        getsOut(due);
        safe(due);
        woods(due);
        due.end();
    }

    private static void steps(Due due) {
        InsuredFlame x = new InsuredFlame();
        Due.town(x, "9#3#/9.2.#/#+~8.#/9#3#");
        due.is("to itself", x.steps(3, 3), 0);
        due.is("around", x.steps(0, 36), 25);
        due.is("and back", x.steps(36, 0), 25);
        due.is("down", x.steps(36, 24), 1);
        due.is("no wood", x.steps(0, 12), -3);
        due.is("from no wood", x.steps(12, 0), -3);
        due.is("insured wood is none", x.steps(0, 25), -3);
        due.is("-1", x.steps(-1, 0), -1);
        due.is("96", x.steps(0, 96), -1);
        due.is("96 first", x.steps(96, 12), -1);
        Due.orders(x, "~11,1");
        due.is("never", x.steps(0, 36), -2);
        Due.town(x, "9.2.#/#");
        due.is("no wrap around the edge", x.steps(11, 12), -2);
        Due.town(x, "3#");
        Due.orders(x, "*1,0");
        x.minutes(5);
        due.is("through burnt wood", x.steps(0, 2), 2);
    }

    private static void began(Due due) {
        InsuredFlame x = new InsuredFlame();
        Due.town(x, "5#");
        due.is("none of none", x.began(3, 0), 0);
        due.is("the lowest of none", x.began(3, 1), -2);
        Due.orders(x, "*1,0;*2,0;*3,0");
        due.is("1 ago", x.began(1, 0), 1);
        due.is("1 ago, lowest", x.began(1, 1), 2);
        due.is("0 ago", x.began(0, 0), 0);
        due.is("2 ago", x.began(2, 1), -2);
        Due.orders(x, "*0,0;*4,0");
        due.is("2 ago, all", x.began(2, 0), 1);
        due.is("3 ago, all", x.began(3, 0), 3);
        due.is("3 ago, lowest", x.began(3, 1), 1);
        due.is("60 ago", x.began(60, 0), 5);
        due.is("60 ago, lowest", x.began(60, 1), 0);
        x.minutes(3);
        due.is("burnt ones count", x.began(2, 1), 2);
        for (int n : new int[] {-1, 61}) {
            due.is("began " + n, x.began(n, 0), -1);
        }
        due.is("what 2", x.began(0, 2), -1);
        due.is("what -1", x.began(0, -1), -1);
        Due.town(x, "##.#");
        Due.orders(x, "*0,0;*1,0");
        due.is("another group stays whole", x.began(9, 0), 2);
        Due.orders(x, "*3,0");
        due.is("two groups began nowhere", x.began(9, 0), 0);
    }

    private static void breaks(Due due) {
        InsuredFlame x = new InsuredFlame();
        Due.town(x, "9#3#/9#3#/9#3#/9#3#/9#3#/9#3#/9#3#/9#3#");
        due.is("corner to corner", x.breaks(0, 95), 2);
        due.is("edge to edge", x.breaks(2, 93), 3);
        due.is("middle to middle", x.breaks(40, 55), 4);
        due.is("next", x.breaks(40, 41), -2);
        due.is("next, down", x.breaks(40, 52), -2);
        due.is("not next around the edge", x.breaks(11, 12), 2);
        due.is("the same", x.breaks(5, 5), -1);
        due.is("-1", x.breaks(-1, 5), -1);
        due.is("96", x.breaks(5, 96), -1);
        Due.town(x, "5#/#.#.#/5#");
        due.is("a ring with a bar", x.breaks(0, 4), 2);
        due.is("across the bar", x.breaks(2, 26), 3);
        due.is("no wood", x.breaks(0, 13), -3);
        due.is("no wood, the same", x.breaks(13, 13), -1);
        due.is("no wood, next", x.breaks(12, 13), -3);
        Due.town(x, "##.##");
        due.is("parted", x.breaks(0, 3), 0);
        Due.town(x, "3#/..#/3#/#/3#");
        due.is("a single row", x.breaks(0, 50), 1);
        Due.orders(x, "*2,1");
        x.minutes(9);
        due.is("burnt wood is wood", x.breaks(0, 50), 1);
        goesBack(due);
    }

    /** The shortest way first taken must be given up in part for two to be found. */
    private static void goesBack(Due due) {
        InsuredFlame x = new InsuredFlame();
        Due.town(x, "3#3#/#.##.#/#.##.#/3#3#/#/#");
        due.is("a way goes back", x.breaks(0, 41), 2);
        Due.town(x, ".4#/##..#/#.3#/3#.#/..3#");
        due.is("another", x.breaks(1, 52), 2);
    }

    private static void breaksOfDrawnTowns(Due due) {
        Random random = new Random(7);
        for (int k = 0; k < 400; k++) {
            StringBuilder told = new StringBuilder();
            int wood = 50 + random.nextInt(45);
            for (int p = 0; p < 96; p++) {
                told.append(p > 0 && p % 12 == 0 ? "/" : "").append(random.nextInt(100) < wood ? "#" : ".");
            }
            InsuredFlame x = new InsuredFlame();
            Model model = new Model();
            due.is("the same town", Due.town(x, told.toString()), model.town(told.toString()));
            for (int pair = 0; pair < 20; pair++) {
                int from = random.nextInt(96);
                int to = random.nextInt(96);
                if (from != to && model.wood(from) && model.wood(to) && !Model.next(from).contains(to)) {
                    due.is("breaks " + from + ", " + to + " in " + told, x.breaks(from, to), model.breaksByWays(from, to));
                }
            }
        }
    }

    private static void getsOut(Due due) {
        InsuredFlame x = new InsuredFlame();
        due.is("at the edge", x.getsOut(23), 0);
        due.is("from the middle", x.getsOut(41), 3);
        due.is("-1", x.getsOut(-1), -1);
        due.is("96", x.getsOut(96), -1);
        Due.town(x, "5./.3~./.~.~./.3~.");
        due.is("locked in by water", x.getsOut(26), -2);
        due.is("water", x.getsOut(13), -3);
        Due.town(x, "5#/5#/5#/5#/5#");
        Due.orders(x, "*0,2");
        due.is("burning", x.getsOut(24), -3);
        due.is("away", x.getsOut(26), 2);
        due.is("through whole wood", x.getsOut(13), 1);
        Due.orders(x, "*1,1");
        due.is("at the same minute is too late", x.getsOut(25), 4);
        Due.town(x, "3#/3#/3#");
        Due.orders(x, "*1,0;*0,1;*2,1;*1,2");
        due.is("shut in", x.getsOut(13), -2);
        Due.town(x, ".#/#.#/.#");
        Due.orders(x, "*1,0;*0,1;*2,1;*1,2");
        due.is("shut in on bare ground", x.getsOut(13), -2);
        Due.town(x, ".+/+.+/.+");
        due.is("insured wood can be walked", x.getsOut(13), 1);
        Due.town(x, "~#~/~#~/~#~/~3~/.3~");
        Due.orders(x, "*1,2");
        due.is("chased", x.getsOut(13), 1);
        Due.town(x, "~#~/~#~/~#~/.3~");
        Due.orders(x, "*1,0");
        due.is("driven into a dead end", x.getsOut(25), -2);
        Due.town(x, "3#");
        Due.orders(x, "*1,0");
        x.minutes(3);
        due.is("burnt, at the edge", x.getsOut(1), 0);
    }

    private static void safe(Due due) {
        InsuredFlame x = new InsuredFlame();
        Due.town(x, "3#.##+#~#");
        due.is("no fire", x.safe(0), 7);
        due.is("no fire, lowest", x.safe(1), 0);
        Due.orders(x, "*1,0");
        due.is("one group", x.safe(0), 4);
        due.is("one group, lowest", x.safe(1), 4);
        Due.orders(x, "*7,0;*4,0;*9,0");
        due.is("none", x.safe(0), 0);
        due.is("none, lowest", x.safe(1), -2);
        due.is("what 2", x.safe(2), -1);
        due.is("what -1", x.safe(-1), -1);
        x.minutes(3);
        due.is("burnt ones, with no fire", x.safe(0), 7);
        Due.orders(x, "*0,0");
        due.is("it comes to burnt ones, too", x.safe(0), 4);
    }

    private static void woods(Due due) {
        InsuredFlame x = new InsuredFlame();
        Due.town(x, "##.#/.#.#/#+#./9.2.#/#");
        due.is("groups", x.woods(0), 6);
        due.is("largest", x.woods(1), 3);
        due.is("what 2", x.woods(2), -1);
        due.is("what -1", x.woods(-1), -1);
        Due.orders(x, "~1,0");
        due.is("groups parted", x.woods(0), 7);
        due.is("largest then", x.woods(1), 2);
        Due.orders(x, "*0,0");
        x.minutes(9);
        due.is("burnt wood is wood", x.woods(0), 7);
        Due.town(x, "9#3#/9#3#/9#3#/9#3#/9#3#/9#3#/9#3#/9#3#");
        due.is("one", x.woods(0), 1);
        due.is("all", x.woods(1), 96);
    }
}
